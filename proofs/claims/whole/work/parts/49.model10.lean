/-! a frame of the model is built -/
def FU (B : tw_S) (f z : Nat → Int32) : tw_S := tw_wA (tw_wA B 125 f) 126 z
def FB (B : tw_S) (k : Nat) (f z : Nat → Int32) (xs : List Nat) : Prop := z k = nI xs.length ∧ (∀ i, i < xs.length → f (120 * k + i) = nI (xs.getD i 0)) ∧ (∀ j, j ≠ k → z j = tw_A B 126 j) ∧ ∀ q, q < 120 * k ∨ 120 * k + 120 ≤ q → f q = tw_A B 125 q
theorem FU_uA5 (B : tw_S) (f z : Nat → Int32) (a : Nat) (x : Int32) : tw_uA (FU B f z) 125 a x = FU B (upd f a x) z := by
  simp only [FU, tw_uA, tw_wA, Prod.mk.injEq, true_and, and_true]
  funext q j
  by_cases h : q = 126
  · subst h; simp
  · by_cases h2 : q = 125
    · subst h2
      by_cases h3 : j = a <;> simp [h3, upd]
    · simp [h, h2]
theorem FU_uA6 (B : tw_S) (f z : Nat → Int32) (a : Nat) (x : Int32) : tw_uA (FU B f z) 126 a x = FU B f (upd z a x) := by
  simp only [FU, tw_uA, tw_wA, Prod.mk.injEq, true_and, and_true]
  funext q j
  by_cases h : q = 126
  · subst h
    by_cases h3 : j = a <;> simp [h3, upd]
  · simp [h]
theorem FU_self (B : tw_S) : B = FU B (tw_A B 125) (tw_A B 126) := by
  show B = tw_wA (tw_wA B 125 (tw_A B 125)) 126 (tw_A B 126)
  rw [wA_self, wA_self]
theorem FB_push {B : tw_S} {k b : Nat} {f z : Nat → Int32} {xs : List Nat} (h : FB B k f z xs) (hl : xs.length < 120) : FB B k (upd f (120 * k + xs.length) (nI b)) (upd z k (nI (xs.length + 1))) (xs ++ [b]) := by
  refine ⟨by simp [upd], fun i hi => ?_, fun j hj => ?_, fun q hq => ?_⟩
  · by_cases hx : i = xs.length
    · subst hx
      simp [upd, List.getD_eq_getElem?_getD]
    · have h1 : i < xs.length := by simp at hi; omega
      have e : (xs ++ [b]).getD i 0 = xs.getD i 0 := by simp [List.getD_eq_getElem?_getD, List.getElem?_append_left h1]
      rw [e]
      simp only [upd, show ¬ 120 * k + i = 120 * k + xs.length by omega, if_false]
      exact h.2.1 i h1
  · simp only [upd, hj, if_false]; exact h.2.2.1 j hj
  · simp only [upd, show ¬ q = 120 * k + xs.length by omega, if_false]; exact h.2.2.2 q hq
theorem FB_nil {B : tw_S} {k : Nat} {f z : Nat → Int32} {xs : List Nat} (h : FB B k f z xs) : FB B k f (upd z k (nI 0)) [] := ⟨by simp [upd], fun i hi => absurd hi (by simp), fun j hj => by simp only [upd, hj, if_false]; exact h.2.2.1 j hj, h.2.2.2⟩
theorem FB_new (B : tw_S) (k : Nat) : FB B k (tw_A B 125) (upd (tw_A B 126) k (nI 0)) [] := ⟨by simp [upd], fun i hi => absurd hi (by simp), fun j hj => by simp only [upd, hj, if_false], fun _ _ => rfl⟩
theorem c_X11_addTo {G : tw_G} (hM : tw_mG G) {B : tw_S} {k : Nat} {f z : Nat → Int32} {xs : List Nat} (hF : FB B k f z xs) (hk : k < 40) (hl : xs.length < 120) {b : Nat} : tw_M G yX11_addTo cX11_addTo 3 none 0 0 [.ref (tw_ad G 114), .int (nI k), .int (nI b)] ((FU B f z)) ri_V (fun _ S' => ∃ g y, S' = FU B g y ∧ FB B k g y (xs ++ [b % 256])) := by
  refine tw_M.of (L := [(0, .ref (tw_ad G 114)), (1, .int (nI k)), (2, .int (nI b))]) (by decide) (Nat.le_of_ble_eq_true rfl) rfl (fun X C N Q => ?_)
  have C : tw_C G X cX11_addTo RX11 := C
  refine tw_aload_n C dX11_addTo_0 0 rfl ?_
  refine tw_getR (q := 125) (k := 30) C dX11_addTo_1 fc_X11 sh_114 (hM 114 (by decide) (by decide)) rfl (by decide) wd_121 ?_
  refine tw_bipush C dX11_addTo_4 (v := nI 120) (by decide) ?_
  refine tw_iload_n C dX11_addTo_6 1 rfl ?_
  refine tw_imul C dX11_addTo_7 (v := nI (120 * k)) (pk_mul _ _) ?_
  refine tw_aload_n C dX11_addTo_8 0 rfl ?_
  refine tw_getR (q := 126) (k := 31) C dX11_addTo_9 fc_X11 sh_114 (hM 114 (by decide) (by decide)) rfl (by decide) wd_122 ?_
  refine tw_iload_n C dX11_addTo_12 1 rfl ?_
  refine tw_iald (v := nI xs.length) C dX11_addTo_13 sn_126 sa_126 (hM 126 (by decide) (by decide)) (by omega) (by decide) hF.1 ?_
  refine tw_iadd C dX11_addTo_14 (v := nI ((120 * k) + xs.length)) (nI_add _ _) ?_
  refine tw_iload_n C dX11_addTo_15 2 rfl ?_
  refine tw_sipush C dX11_addTo_16 (v := nI 255) (by decide) ?_
  refine tw_iand C dX11_addTo_19 (v := nI (b % 256)) (nI_andm 8 (by decide)) ?_
  refine tw_iast C dX11_addTo_20 sn_125 sa_125 (hM 125 (by decide) (by decide)) (by omega) (by decide) ?_
  refine TW.sS (S' := FU B (upd f ((120 * k) + xs.length) (nI (b % 256))) z) (FU_uA5 _ _ _ _ _) ?_
  refine tw_aload_n C dX11_addTo_21 0 rfl ?_
  refine tw_getR (q := 126) (k := 31) C dX11_addTo_22 fc_X11 sh_114 (hM 114 (by decide) (by decide)) rfl (by decide) wd_122 ?_
  refine tw_iload_n C dX11_addTo_25 1 rfl ?_
  refine tw_dup2 C dX11_addTo_26 rfl rfl ?_
  refine tw_iald (v := nI xs.length) C dX11_addTo_27 sn_126 sa_126 (hM 126 (by decide) (by decide)) (by omega) (by decide) hF.1 ?_
  refine tw_iconst C dX11_addTo_28 (v := nI 1) (by decide) ?_
  refine tw_iadd C dX11_addTo_29 (v := nI (xs.length + 1)) (nI_add _ _) ?_
  refine tw_iast C dX11_addTo_30 sn_126 sa_126 (hM 126 (by decide) (by decide)) (by omega) (by decide) ?_
  refine TW.sS (S' := FU B (upd f ((120 * k) + xs.length) (nI (b % 256))) (upd z k (nI (xs.length + 1)))) (FU_uA6 _ _ _ _ _) ?_
  exact tw_return (v := ()) C Q dX11_addTo_31 rfl rfl ⟨_, _, rfl, FB_push hF hl⟩
