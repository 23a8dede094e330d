/-! the model's sorts; its row goes out -/
theorem or_sortz {f l : Nat} : f = 0 ∧ l = 0 ↔ f * 256 ^ 8 + l = 0 := by
  rw [Nat.add_eq_zero_iff, Nat.mul_eq_zero]
  constructor
  · rintro ⟨h1, h2⟩; exact ⟨Or.inl h1, h2⟩
  · rintro ⟨h1, h2⟩; exact ⟨h1.resolve_right (by decide), h2⟩
/-- nothing but the fields of sorts has changed -/
def sF (S S' : tw_S) : Prop := tw_R S' = tw_R S ∧ tw_J S' = tw_J S ∧ tw_A S' = tw_A S ∧ tw_B S' = tw_B S ∧ ∀ r k, r ≠ 114 ∨ k < 11 ∨ 17 < k → tw_I S' r k = tw_I S r k
theorem sF_rf (S : tw_S) : sF S S := ⟨rfl, rfl, rfl, rfl, fun _ _ _ => rfl⟩
theorem sF_uI {S S' : tw_S} {k : Nat} {x : Int32} (h : sF S S') (hk : 11 ≤ k ∧ k ≤ 17) : sF S (tw_uI S' 114 k x) := ⟨h.1, h.2.1, h.2.2.1, h.2.2.2.1, fun r j hr => by rw [← h.2.2.2.2 r j hr, tq_I_uI, if_neg (by omega)]⟩
theorem sF_tr {S S1 S2 : tw_S} (h : sF S S1) (g : sF S1 S2) : sF S S2 := ⟨g.1.trans h.1, g.2.1.trans h.2.1, g.2.2.1.trans h.2.2.1, g.2.2.2.1.trans h.2.2.2.1, fun r k hr => (g.2.2.2.2 r k hr).trans (h.2.2.2.2 r k hr)⟩
theorem mK_sF {S S' : tw_S} {K : kN} (h : mK S K) (g : sF S S') : mK S' K := by
  unfold mK at h ⊢
  rw [g.2.2.1]
  exact h
theorem c_X11_rowToOut {G : tw_G} (hM : tw_mG G) {B : tw_S} {f : Nat → Int32} {xs : List Nat} (hf : LA f xs) (hxl : xs.length ≤ 800) : tw_M G yX11_rowToOut cX11_rowToOut 2 none 0 0 [.ref (tw_ad G 114)] ((MU B 120 8 f xs)) ri_V (fun _ S' => ∃ g, S' = MU (MU B 120 8 f xs) 119 6 g xs ∧ LA g xs) := by
  refine tw_M.of (L := [(0, .ref (tw_ad G 114))]) (by decide) (Nat.le_of_ble_eq_true rfl) rfl (fun X C N Q => ?_)
  have C : tw_C G X cX11_rowToOut RX11 := C
  have loop : ∀ (d : Nat) (k : Nat) (g : Nat → Int32) (_ : k + d = xs.length) (hg : ∀ i, i < k → g i = nI (xs.getD i 0)), TW G X (tw_wA (MU B 120 8 f xs) 119 g) [(1, .int (nI k)), (0, .ref (tw_ad G 114))] 2 [] := by
    intro d
    induction d with
    | zero =>
      intro k g hk hg
      refine tw_iload_n C dX11_rowToOut_2 0 rfl ?_
      refine tw_aload_n C dX11_rowToOut_3 1 rfl ?_
      refine tw_getI (v := nI xs.length) (k := 8) C dX11_rowToOut_4 fc_X11 sh_114 (hM 114 (by decide) (by decide)) rfl (by decide) wd_390 rfl ?_
      refine tn_icmp_ge C dX11_rowToOut_7 (tgt := 28) (by decide) (by omega) (by omega) (fun c1 => ?_) (fun c1 => ?_)
      · skip
        refine tw_aload_n C dX11_rowToOut_28 1 rfl ?_
        refine tw_aload_n C dX11_rowToOut_29 1 rfl ?_
        refine tw_getI (v := nI xs.length) (k := 8) C dX11_rowToOut_30 fc_X11 sh_114 (hM 114 (by decide) (by decide)) rfl (by decide) wd_390 rfl ?_
        refine tw_putI (k := 6) C dX11_rowToOut_33 fc_X11 sh_114 (hM 114 (by decide) (by decide)) rfl (by decide) rfl wd_270 rfl rfl ?_
        exact tw_return (v := ()) C Q dX11_rowToOut_36 rfl rfl ⟨g, rfl, fun i hi => hg i (by omega)⟩
      · exact absurd c1 (by omega)
    | succ d ih =>
      intro k g hk hg
      refine tw_iload_n C dX11_rowToOut_2 0 rfl ?_
      refine tw_aload_n C dX11_rowToOut_3 1 rfl ?_
      refine tw_getI (v := nI xs.length) (k := 8) C dX11_rowToOut_4 fc_X11 sh_114 (hM 114 (by decide) (by decide)) rfl (by decide) wd_390 rfl ?_
      refine tn_icmp_ge C dX11_rowToOut_7 (tgt := 28) (by decide) (by omega) (by omega) (fun c1 => ?_) (fun c1 => ?_)
      · exact absurd c1 (by omega)
      refine tw_aload_n C dX11_rowToOut_10 1 rfl ?_
      refine tw_getR (q := 119) (k := 5) C dX11_rowToOut_11 fc_X11 sh_114 (hM 114 (by decide) (by decide)) rfl (by decide) wd_115 ?_
      refine tw_iload_n C dX11_rowToOut_14 0 rfl ?_
      refine tw_aload_n C dX11_rowToOut_15 1 rfl ?_
      refine tw_getR (q := 120) (k := 7) C dX11_rowToOut_16 fc_X11 sh_114 (hM 114 (by decide) (by decide)) rfl (by decide) wd_116 ?_
      refine tw_iload_n C dX11_rowToOut_19 0 rfl ?_
      refine tw_iald (v := nI (xs.getD k 0)) C dX11_rowToOut_20 sn_120 sa_120 (hM 120 (by decide) (by decide)) (by omega) (by decide) (hf k (by omega)) ?_
      refine tw_iast C dX11_rowToOut_21 sn_119 sa_119 (hM 119 (by decide) (by decide)) (by omega) (by decide) ?_
      refine tw_iinc (k := 0) (v := nI (k + 1)) (L' := [(1, .int (nI (k + 1))), (0, .ref (tw_ad G 114))]) C N dX11_rowToOut_22 rfl (tn_inc1 _) (by decide) rfl ?_
      refine tw_goto C dX11_rowToOut_25 (tgt := 2) (by decide) ?_
      rw [wA_uA]
      refine TW.c (L' := [(1, .int (nI (k + 1))), (0, .ref (tw_ad G 114))]) (by simp) ?_
      exact ih (k + 1) _ (by omega) (fun i hi => by
        by_cases hx : i = k
        · rw [hx]; simp [upd]
        · simp only [upd, hx, if_false]; exact hg i (by omega))
  refine tw_iconst C dX11_rowToOut_0 (v := nI 0) (by decide) ?_
  refine tw_istore_n (L' := [(1, .int (nI 0)), (0, .ref (tw_ad G 114))]) C N dX11_rowToOut_1 rfl (by decide) rfl ?_
  refine TW.sS (S' := tw_wA (MU B 120 8 f xs) 119 (tw_A (MU B 120 8 f xs) 119)) (wA_self _ 119).symm ?_
  refine TW.c (L' := [(1, .int (nI 0)), (0, .ref (tw_ad G 114))]) (by simp) ?_
  exact loop xs.length 0 _ (by omega) (fun i hi => absurd hi (by omega))
