/-! a packet cut to frames -/
def cutE (z size p : Nat) : Nat := if z - p ≤ size - 5 then z else p + (size - 5) / 8 * 8
def cutR (xs : List Nat) (z size tag : Nat) : Nat → Nat → List (List Nat)
  | 0, _ => []
  | d + 1, p => if p < z then (be (57344 + z) 2 ++ be tag 2 ++ [p / 8 % 256] ++ cutD xs p (cutE z size p - p)) :: cutR xs z size tag d (cutE z size p) else []
def cutM (hd size : Nat) : Nat := (size - 4 - hd) / 8 * 8
/-- the answer, and the frames (none: they stay) -/
def cutA (sq : List Nat) (hd ph : Nat) (xs : List Nat) (size tag : Nat) : Option (List (List Nat)) :=
  if sq.length ≤ size then some [sq] else if size < 4 + hd then none
  else some ((be (49152 + xs.length) 2 ++ be tag 2 ++ cutD sq 0 (hd + cutM hd size)) :: cutR xs xs.length size tag 39 (ph + cutM hd size))
theorem cutR_len (xs : List Nat) (z size tag : Nat) : ∀ d p, (cutR xs z size tag d p).length ≤ d
  | 0, p => by simp [cutR]
  | d + 1, p => by
    unfold cutR
    split
    · have := cutR_len xs z size tag d (cutE z size p)
      simp; omega
    · simp
theorem cutR_stop {xs : List Nat} {z size tag d p : Nat} (h : ¬ p < z) : cutR xs z size tag d p = [] := by
  cases d with
  | zero => rfl
  | succ d => unfold cutR; rw [if_neg h]
theorem cutR_go {xs : List Nat} {z size tag d p : Nat} (h : p < z) : cutR xs z size tag (d + 1) p = (be (57344 + z) 2 ++ be tag 2 ++ [p / 8 % 256] ++ cutD xs p (cutE z size p - p)) :: cutR xs z size tag d (cutE z size p) := by
  rw [cutR, if_pos h]
/-- what Cutter and Frames leave as it was -/
def dS (S S' : tw_S) : Prop := (∀ r, r ≠ 15 → r ≠ 17 → r < 34 → tw_R S' r = tw_R S r) ∧ (∀ r k, r ≠ 12 → tw_I S' r k = tw_I S r k) ∧ tw_J S' = tw_J S ∧ tw_A S' = tw_A S ∧ tw_B S' = tw_B S
theorem dS_rf (S : tw_S) : dS S S := ⟨fun _ _ _ _ => rfl, fun _ _ _ => rfl, rfl, rfl, rfl⟩
theorem dS_uR {S S' : tw_S} {r : Nat} {x : List Nat} (h : dS S S') (hr : r = 15 ∨ r = 17 ∨ 34 ≤ r) : dS S (tw_uR S' r x) := ⟨fun q h1 h2 h3 => by rw [tq_uR_ne _ _ (by omega)]; exact h.1 q h1 h2 h3, h.2.1, h.2.2.1, h.2.2.2.1, h.2.2.2.2⟩
theorem dS_uI {S S' : tw_S} {k : Nat} {x : Int32} (h : dS S S') : dS S (tw_uI S' 12 k x) := ⟨h.1, fun r k2 hr => by rw [← h.2.1 r k2 hr]; simp [tw_I, tw_uI, hr], h.2.2.1, h.2.2.2.1, h.2.2.2.2⟩
theorem KN_of {S S' : tw_S} {K : kN} (h : KN S K) (hJ : tw_J S' = tw_J S) (hA : tw_A S' = tw_A S) (hB : tw_B S' = tw_B S) : KN S' K := by
  unfold KN at h ⊢
  rw [hJ, hA, hB]
  exact h
theorem dS_KN {S S' : tw_S} {K : kN} (h : dS S S') (hK : KN S K) : KN S' K := KN_of hK h.2.2.1 h.2.2.2.1 h.2.2.2.2
theorem FRM_dS {S : tw_S} {fr : List (List Nat)} {r : Nat} {x : List Nat} (hr : r < 34) (h : FRM S fr) : FRM (tw_uR S r x) fr := FRM_uR hr h
theorem c_X0_divideRest {G : tw_G} (hG : tw_cG G) {S : tw_S} {xs : List Nat} (hx : tw_R S 1 = xs) (hz : xs.length ≤ 600) {f0 : List Nat} (hF : FRM S [f0]) {size tag p0 : Nat} (hs : 40 ≤ size ∧ size ≤ 120) (ht : tag < 65536) (hp0 : p0 ≤ xs.length) (hp1 : xs.length ≤ p0 + 1248) : tw_M G yX0_divideRest cX0_divideRest 11 (some .int) 4 88 [.ref (tw_ad G 14), .ref (tw_ad G 1), .int (nI p0), .int (nI size), .int (nI tag), .ref (tw_ad G 12)] S ri_I (fun v S' => v = nI (f0 :: cutR xs xs.length size tag 39 p0).length ∧ FRM S' (f0 :: cutR xs xs.length size tag 39 p0) ∧ dS S S') := by
  refine tw_M.of (L := [(0, .ref (tw_ad G 14)), (1, .ref (tw_ad G 1)), (2, .int (nI p0)), (3, .int (nI size)), (4, .int (nI tag)), (5, .ref (tw_ad G 12))]) (by decide) (Nat.le_of_ble_eq_true rfl) rfl (fun X C N Q => ?_)
  have C : tw_C G X cX0_divideRest RX0 := C
  have loop : ∀ (d : Nat) (k p : Nat) (S1 : tw_S) (fr : List (List Nat)) (_ : k + d = 40) (hF1 : FRM S1 fr) (_ : fr.length = k) (_ : fr ++ cutR xs xs.length size tag d p = f0 :: cutR xs xs.length size tag 39 p0) (_ : dS S S1) (_ : xs.length ≤ p + 32 * d) (_ : p ≤ xs.length), TW G X S1 [(9, .int (nI k)), (8, .int (nI p)), (7, .int (nI (size - 5))), (6, .int (nI xs.length)), (0, .ref (tw_ad G 14)), (1, .ref (tw_ad G 1)), (2, .int (nI p0)), (3, .int (nI size)), (4, .int (nI tag)), (5, .ref (tw_ad G 12))] 17 [] := by
    intro d
    induction d with
    | zero =>
      intro k p S1 fr hk hF1 hk2 hfr hD hzp hpz
      have hx1 : tw_R S1 1 = xs := (hD.1 1 (by decide) (by decide) (by decide)).trans hx
      have hlk : fr.length = k := hk2
      refine tw_iload C dX0_divideRest_17 0 rfl ?_
      refine tw_bipush C dX0_divideRest_19 (v := nI 40) (by decide) ?_
      refine tn_icmp_ge C dX0_divideRest_21 (tgt := 116) (by decide) (by omega) (by omega) (fun c1 => ?_) (fun c1 => ?_)
      · skip
        refine tw_iload C dX0_divideRest_116 1 rfl ?_
        refine tw_iload C dX0_divideRest_118 3 rfl ?_
        refine tn_icmp_ge C dX0_divideRest_120 (tgt := 131) (by decide) (by omega) (by omega) (fun c5 => ?_) (fun c5 => ?_)
        · skip
          refine tw_aload C dX0_divideRest_131 9 rfl ?_
          refine tw_callV (As := []) (rest := []) C N (c_X1_size hG (S := S1) (fr := fr) hF1) mm_X1_size wd_316 rfl (hG 12 (by decide)) sh_12 rfl (by decide) rfl (Nat.le_of_ble_eq_true rfl) dX0_divideRest_133 ?_
          rintro _ _ ⟨rfl, rfl⟩
          show TW G X S1 [(9, .int (nI k)), (8, .int (nI p)), (7, .int (nI (size - 5))), (6, .int (nI xs.length)), (0, .ref (tw_ad G 14)), (1, .ref (tw_ad G 1)), (2, .int (nI p0)), (3, .int (nI size)), (4, .int (nI tag)), (5, .ref (tw_ad G 12))] 136 [.int (nI fr.length)]
          exact tw_ireturn C Q dX0_divideRest_136 rfl rfl rfl ⟨by rw [← hfr, cutR_stop (by omega), List.append_nil], by rw [← hfr, cutR_stop (by omega), List.append_nil]; exact hF1, hD⟩
        · exact absurd c5 (by omega)
      · exact absurd c1 (by omega)
    | succ d ih =>
      intro k p S1 fr hk hF1 hk2 hfr hD hzp hpz
      have hx1 : tw_R S1 1 = xs := (hD.1 1 (by decide) (by decide) (by decide)).trans hx
      have hlk : fr.length = k := hk2
      refine tw_iload C dX0_divideRest_17 0 rfl ?_
      refine tw_bipush C dX0_divideRest_19 (v := nI 40) (by decide) ?_
      refine tn_icmp_ge C dX0_divideRest_21 (tgt := 116) (by decide) (by omega) (by omega) (fun c1 => ?_) (fun c1 => ?_)
      · exact absurd c1 (by omega)
      refine tw_iload C dX0_divideRest_24 1 rfl ?_
      refine tw_iload C dX0_divideRest_26 3 rfl ?_
      refine tn_icmp_ge C dX0_divideRest_28 (tgt := 116) (by decide) (by omega) (by omega) (fun c2 => ?_) (fun c2 => ?_)
      · skip
        refine tw_iload C dX0_divideRest_116 1 rfl ?_
        refine tw_iload C dX0_divideRest_118 3 rfl ?_
        refine tn_icmp_ge C dX0_divideRest_120 (tgt := 131) (by decide) (by omega) (by omega) (fun c5 => ?_) (fun c5 => ?_)
        · skip
          refine tw_aload C dX0_divideRest_131 9 rfl ?_
          refine tw_callV (As := []) (rest := []) C N (c_X1_size hG (S := S1) (fr := fr) hF1) mm_X1_size wd_316 rfl (hG 12 (by decide)) sh_12 rfl (by decide) rfl (Nat.le_of_ble_eq_true rfl) dX0_divideRest_133 ?_
          rintro _ _ ⟨rfl, rfl⟩
          show TW G X S1 [(9, .int (nI k)), (8, .int (nI p)), (7, .int (nI (size - 5))), (6, .int (nI xs.length)), (0, .ref (tw_ad G 14)), (1, .ref (tw_ad G 1)), (2, .int (nI p0)), (3, .int (nI size)), (4, .int (nI tag)), (5, .ref (tw_ad G 12))] 136 [.int (nI fr.length)]
          exact tw_ireturn C Q dX0_divideRest_136 rfl rfl rfl ⟨by rw [← hfr, cutR_stop (by omega), List.append_nil], by rw [← hfr, cutR_stop (by omega), List.append_nil]; exact hF1, hD⟩
        · exact absurd c5 (by omega)
      · skip
        refine tw_iload C dX0_divideRest_31 3 rfl ?_
        refine tw_iload C dX0_divideRest_33 1 rfl ?_
        refine tw_isub C dX0_divideRest_35 (v := nI (xs.length - p)) (pk_sub (by omega)) ?_
        refine tw_iload C dX0_divideRest_36 2 rfl ?_
        refine tn_icmp_gt C dX0_divideRest_38 (tgt := 46) (by decide) (by omega) (by omega) (fun c3 => ?_) (fun c3 => ?_)
        · skip
          refine tw_iload C dX0_divideRest_46 1 rfl ?_
          refine tw_iload C dX0_divideRest_48 2 rfl ?_
          refine tw_bipush C dX0_divideRest_50 (v := nI 8) (by decide) ?_
          refine tw_idiv C dX0_divideRest_52 (by decide) (v := nI ((size - 5) / 8)) (pk_div (by omega) (by decide) (by decide)) ?_
          refine tw_bipush C dX0_divideRest_53 (v := nI 8) (by decide) ?_
          refine tw_imul C dX0_divideRest_55 (v := nI (((size - 5) / 8) * 8)) (pk_mul _ _) ?_
          refine tw_iadd C dX0_divideRest_56 (v := nI (p + (((size - 5) / 8) * 8))) (nI_add _ _) ?_
          refine tw_istore (L' := [(10, .int (nI (p + (((size - 5) / 8) * 8)))), (9, .int (nI k)), (8, .int (nI p)), (7, .int (nI (size - 5))), (6, .int (nI xs.length)), (0, .ref (tw_ad G 14)), (1, .ref (tw_ad G 1)), (2, .int (nI p0)), (3, .int (nI size)), (4, .int (nI tag)), (5, .ref (tw_ad G 12))]) C N dX0_divideRest_57 (i := 10) (by decide) rfl ?_
          refine tw_aload_n C dX0_divideRest_59 5 rfl ?_
          refine tw_sipush C dX0_divideRest_60 (v := nI 224) (by decide) ?_
          refine tw_iload C dX0_divideRest_63 4 rfl ?_
          refine tw_iload C dX0_divideRest_65 9 rfl ?_
          refine tw_callV (As := [.int (nI 224), .int (nI xs.length), .int (nI tag)]) (rest := []) C N (c_X0_begin1 hG (S := S1) (z := xs.length) (tag := tag) (by omega) (by omega)) mm_X0_begin wd_320 rfl (hG 14 (by decide)) sh_14 rfl (by decide) rfl (Nat.le_of_ble_eq_true rfl) dX0_divideRest_67 ?_
          rintro _ _ rfl
          show TW G X (tw_uR S1 17 (be (57344 + xs.length) 2 ++ be tag 2)) [(10, .int (nI (p + (((size - 5) / 8) * 8)))), (9, .int (nI k)), (8, .int (nI p)), (7, .int (nI (size - 5))), (6, .int (nI xs.length)), (0, .ref (tw_ad G 14)), (1, .ref (tw_ad G 1)), (2, .int (nI p0)), (3, .int (nI size)), (4, .int (nI tag)), (5, .ref (tw_ad G 12))] 70 []
          refine tw_aload_n C dX0_divideRest_70 5 rfl ?_
          refine tw_getR (q := 17) (k := 2) C dX0_divideRest_71 fc_X0 sh_14 (hG 14 (by decide)) rfl (by decide) wd_87 ?_
          refine tw_iload C dX0_divideRest_74 2 rfl ?_
          refine tw_bipush C dX0_divideRest_76 (v := nI 8) (by decide) ?_
          refine tw_idiv C dX0_divideRest_78 (by decide) (v := nI (p / 8)) (pk_div (by omega) (by decide) (by decide)) ?_
          refine tw_callV (As := [.int (nI (p / 8))]) (rest := []) C N (e_X7_add hG (S := tw_uR S1 17 (be (57344 + xs.length) 2 ++ be tag 2)) tw_row17 (xs := be (57344 + xs.length) 2 ++ be tag 2) rfl (x := p / 8)) mm_X7_add wd_332 rfl (hG 17 (by decide)) sh_17 rfl (by decide) rfl (Nat.le_of_ble_eq_true rfl) dX0_divideRest_79 ?_
          rintro _ _ rfl
          show TW G X (tw_uR (tw_uR S1 17 (be (57344 + xs.length) 2 ++ be tag 2)) 17 (((be (57344 + xs.length) 2 ++ be tag 2) ++ [(p / 8) % 256]).take (tw_cap 17))) [(10, .int (nI (p + (((size - 5) / 8) * 8)))), (9, .int (nI k)), (8, .int (nI p)), (7, .int (nI (size - 5))), (6, .int (nI xs.length)), (0, .ref (tw_ad G 14)), (1, .ref (tw_ad G 1)), (2, .int (nI p0)), (3, .int (nI size)), (4, .int (nI tag)), (5, .ref (tw_ad G 12))] 82 []
          refine TW.sS (S' := tw_uR S1 17 (((be (57344 + xs.length) 2 ++ be tag 2) ++ [(p / 8) % 256]).take (tw_cap 17))) (tw_uR_uR _ _ _ _) ?_
          refine tw_aload_n C dX0_divideRest_82 5 rfl ?_
          refine tw_getR (q := 17) (k := 2) C dX0_divideRest_83 fc_X0 sh_14 (hG 14 (by decide)) rfl (by decide) wd_87 ?_
          refine tw_aload_n C dX0_divideRest_86 6 rfl ?_
          refine tw_iload C dX0_divideRest_87 2 rfl ?_
          refine tw_iload C dX0_divideRest_89 0 rfl ?_
          refine tw_callV (As := [.ref (tw_ad G 1), .int (nI p), .int (nI (p + (((size - 5) / 8) * 8)))]) (rest := []) C N (e_X7_addAll hG (S := tw_uR S1 17 (((be (57344 + xs.length) 2 ++ be tag 2) ++ [(p / 8) % 256]).take (tw_cap 17))) tw_row17 (xs := ((be (57344 + xs.length) 2 ++ be tag 2) ++ [(p / 8) % 256]).take (tw_cap 17)) rfl tw_row1 (by decide) (ys := xs) hx1 (a := p) (e := p + (((size - 5) / 8) * 8)) (by omega) (by omega)) mm_X7_addAll wd_326 rfl (hG 17 (by decide)) sh_17 rfl (by decide) rfl (Nat.le_of_ble_eq_true rfl) dX0_divideRest_91 ?_
          rintro _ _ rfl
          show TW G X (tw_uR (tw_uR S1 17 (((be (57344 + xs.length) 2 ++ be tag 2) ++ [(p / 8) % 256]).take (tw_cap 17))) 17 (((((be (57344 + xs.length) 2 ++ be tag 2) ++ [(p / 8) % 256]).take (tw_cap 17)) ++ cutD xs p ((p + (((size - 5) / 8) * 8)) - p)).take (tw_cap 17))) [(10, .int (nI (p + (((size - 5) / 8) * 8)))), (9, .int (nI k)), (8, .int (nI p)), (7, .int (nI (size - 5))), (6, .int (nI xs.length)), (0, .ref (tw_ad G 14)), (1, .ref (tw_ad G 1)), (2, .int (nI p0)), (3, .int (nI size)), (4, .int (nI tag)), (5, .ref (tw_ad G 12))] 94 []
          refine TW.sS (S' := tw_uR S1 17 (((be (57344 + xs.length) 2 ++ be tag 2) ++ [(p / 8) % 256] ++ cutD xs p ((p + (((size - 5) / 8) * 8)) - p)).take (tw_cap 17))) (by rw [tw_uR_uR, tk_tk]) ?_
          refine TW.sS (S' := tw_uR S1 17 ((be (57344 + xs.length) 2 ++ be tag 2) ++ [(p / 8) % 256] ++ cutD xs p ((p + (((size - 5) / 8) * 8)) - p))) (by rw [List.take_of_length_le (by simp only [List.length_append, be_len, cutD_len, List.length_cons, List.length_nil]; show _ ≤ 120; omega)]) ?_
          refine tw_aload C dX0_divideRest_94 10 rfl ?_
          refine tw_iload C dX0_divideRest_96 1 rfl ?_
          refine tw_aload_n C dX0_divideRest_98 5 rfl ?_
          refine tw_getR (q := 17) (k := 2) C dX0_divideRest_99 fc_X0 sh_14 (hG 14 (by decide)) rfl (by decide) wd_87 ?_
          refine tw_callV (As := [.int (nI k), .ref (tw_ad G 17)]) (rest := []) C N (hlk ▸ c_X1_store0 hG (S := tw_uR S1 17 ((be (57344 + xs.length) 2 ++ be tag 2) ++ [(p / 8) % 256] ++ cutD xs p ((p + (((size - 5) / 8) * 8)) - p))) (fr := fr) (FRM_uR (by decide) hF1) tw_row17 (by decide) (ys := (be (57344 + xs.length) 2 ++ be tag 2) ++ [(p / 8) % 256] ++ cutD xs p ((p + (((size - 5) / 8) * 8)) - p)) rfl (by omega)) mm_X1_store wd_306 rfl (hG 12 (by decide)) sh_12 rfl (by decide) rfl (Nat.le_of_ble_eq_true rfl) dX0_divideRest_102 ?_
          rintro _ _ ⟨rfl, rfl⟩
          show TW G X (tw_uI (tw_uR (tw_uR S1 17 ((be (57344 + xs.length) 2 ++ be tag 2) ++ [(p / 8) % 256] ++ cutD xs p ((p + (((size - 5) / 8) * 8)) - p))) (34 + 2 * k) (((be (57344 + xs.length) 2 ++ be tag 2) ++ [(p / 8) % 256] ++ cutD xs p ((p + (((size - 5) / 8) * 8)) - p)).take 120)) 12 1 (nI (k + 1))) [(10, .int (nI (p + (((size - 5) / 8) * 8)))), (9, .int (nI k)), (8, .int (nI p)), (7, .int (nI (size - 5))), (6, .int (nI xs.length)), (0, .ref (tw_ad G 14)), (1, .ref (tw_ad G 1)), (2, .int (nI p0)), (3, .int (nI size)), (4, .int (nI tag)), (5, .ref (tw_ad G 12))] 105 [.int (bI true)]
          refine tw_pop C dX0_divideRest_105 rfl ?_
          have hFn : FRM (tw_uI (tw_uR (tw_uR S1 17 ((be (57344 + xs.length) 2 ++ be tag 2) ++ [(p / 8) % 256] ++ cutD xs p ((p + (((size - 5) / 8) * 8)) - p))) (34 + 2 * k) (((be (57344 + xs.length) 2 ++ be tag 2) ++ [(p / 8) % 256] ++ cutD xs p ((p + (((size - 5) / 8) * 8)) - p)).take 120)) 12 1 (nI (k + 1))) (fr ++ [(be (57344 + xs.length) 2 ++ be tag 2) ++ [(p / 8) % 256] ++ cutD xs p ((p + (((size - 5) / 8) * 8)) - p)]) := (by have h := FRM_push (x := (be (57344 + xs.length) 2 ++ be tag 2) ++ [(p / 8) % 256] ++ cutD xs p ((p + (((size - 5) / 8) * 8)) - p)) (FRM_uR (r := 17) (x := (be (57344 + xs.length) 2 ++ be tag 2) ++ [(p / 8) % 256] ++ cutD xs p ((p + (((size - 5) / 8) * 8)) - p)) (by decide) hF1) (by omega); rw [List.take_of_length_le (by simp only [List.length_append, be_len, cutD_len, List.length_cons, List.length_nil]; omega), ← hlk]; exact h)
          have hDn : dS S (tw_uI (tw_uR (tw_uR S1 17 ((be (57344 + xs.length) 2 ++ be tag 2) ++ [(p / 8) % 256] ++ cutD xs p ((p + (((size - 5) / 8) * 8)) - p))) (34 + 2 * k) (((be (57344 + xs.length) 2 ++ be tag 2) ++ [(p / 8) % 256] ++ cutD xs p ((p + (((size - 5) / 8) * 8)) - p)).take 120)) 12 1 (nI (k + 1))) := (dS_uI (dS_uR (dS_uR hD (Or.inr (Or.inl rfl))) (Or.inr (Or.inr (by omega)))))
          generalize hgen : tw_uI (tw_uR (tw_uR S1 17 ((be (57344 + xs.length) 2 ++ be tag 2) ++ [(p / 8) % 256] ++ cutD xs p ((p + (((size - 5) / 8) * 8)) - p))) (34 + 2 * k) (((be (57344 + xs.length) 2 ++ be tag 2) ++ [(p / 8) % 256] ++ cutD xs p ((p + (((size - 5) / 8) * 8)) - p)).take 120)) 12 1 (nI (k + 1)) = S2 at hFn hDn ⊢
          clear hgen
          refine tw_iload C dX0_divideRest_106 0 rfl ?_
          refine tw_istore (L' := [(8, .int (nI (p + (((size - 5) / 8) * 8)))), (10, .int (nI (p + (((size - 5) / 8) * 8)))), (9, .int (nI k)), (7, .int (nI (size - 5))), (6, .int (nI xs.length)), (0, .ref (tw_ad G 14)), (1, .ref (tw_ad G 1)), (2, .int (nI p0)), (3, .int (nI size)), (4, .int (nI tag)), (5, .ref (tw_ad G 12))]) C N dX0_divideRest_108 (i := 8) (by decide) rfl ?_
          refine tw_iinc (k := 2) (v := nI (k + 1)) (L' := [(9, .int (nI (k + 1))), (8, .int (nI (p + (((size - 5) / 8) * 8)))), (10, .int (nI (p + (((size - 5) / 8) * 8)))), (7, .int (nI (size - 5))), (6, .int (nI xs.length)), (0, .ref (tw_ad G 14)), (1, .ref (tw_ad G 1)), (2, .int (nI p0)), (3, .int (nI size)), (4, .int (nI tag)), (5, .ref (tw_ad G 12))]) C N dX0_divideRest_110 rfl (tn_inc1 _) (by decide) rfl ?_
          refine tw_goto C dX0_divideRest_113 (tgt := 17) (by decide) ?_
          refine TW.c (L' := [(9, .int (nI (k + 1))), (8, .int (nI (p + (((size - 5) / 8) * 8)))), (7, .int (nI (size - 5))), (6, .int (nI xs.length)), (0, .ref (tw_ad G 14)), (1, .ref (tw_ad G 1)), (2, .int (nI p0)), (3, .int (nI size)), (4, .int (nI tag)), (5, .ref (tw_ad G 12))]) (by simp) ?_
          exact ih (k + 1) (p + (((size - 5) / 8) * 8)) S2 _ (by omega) hFn (by simp; omega) (by rw [← hfr, cutR_go (by omega)]; unfold cutE; rw [if_neg (show ¬ xs.length - p ≤ size - 5 by omega)]; simp) hDn (by omega) (by omega)
        · skip
          refine tw_iload C dX0_divideRest_41 3 rfl ?_
          refine tw_goto C dX0_divideRest_43 (tgt := 57) (by decide) ?_
          refine tw_istore (L' := [(10, .int (nI xs.length)), (9, .int (nI k)), (8, .int (nI p)), (7, .int (nI (size - 5))), (6, .int (nI xs.length)), (0, .ref (tw_ad G 14)), (1, .ref (tw_ad G 1)), (2, .int (nI p0)), (3, .int (nI size)), (4, .int (nI tag)), (5, .ref (tw_ad G 12))]) C N dX0_divideRest_57 (i := 10) (by decide) rfl ?_
          refine tw_aload_n C dX0_divideRest_59 5 rfl ?_
          refine tw_sipush C dX0_divideRest_60 (v := nI 224) (by decide) ?_
          refine tw_iload C dX0_divideRest_63 4 rfl ?_
          refine tw_iload C dX0_divideRest_65 9 rfl ?_
          refine tw_callV (As := [.int (nI 224), .int (nI xs.length), .int (nI tag)]) (rest := []) C N (c_X0_begin1 hG (S := S1) (z := xs.length) (tag := tag) (by omega) (by omega)) mm_X0_begin wd_320 rfl (hG 14 (by decide)) sh_14 rfl (by decide) rfl (Nat.le_of_ble_eq_true rfl) dX0_divideRest_67 ?_
          rintro _ _ rfl
          show TW G X (tw_uR S1 17 (be (57344 + xs.length) 2 ++ be tag 2)) [(10, .int (nI xs.length)), (9, .int (nI k)), (8, .int (nI p)), (7, .int (nI (size - 5))), (6, .int (nI xs.length)), (0, .ref (tw_ad G 14)), (1, .ref (tw_ad G 1)), (2, .int (nI p0)), (3, .int (nI size)), (4, .int (nI tag)), (5, .ref (tw_ad G 12))] 70 []
          refine tw_aload_n C dX0_divideRest_70 5 rfl ?_
          refine tw_getR (q := 17) (k := 2) C dX0_divideRest_71 fc_X0 sh_14 (hG 14 (by decide)) rfl (by decide) wd_87 ?_
          refine tw_iload C dX0_divideRest_74 2 rfl ?_
          refine tw_bipush C dX0_divideRest_76 (v := nI 8) (by decide) ?_
          refine tw_idiv C dX0_divideRest_78 (by decide) (v := nI (p / 8)) (pk_div (by omega) (by decide) (by decide)) ?_
          refine tw_callV (As := [.int (nI (p / 8))]) (rest := []) C N (e_X7_add hG (S := tw_uR S1 17 (be (57344 + xs.length) 2 ++ be tag 2)) tw_row17 (xs := be (57344 + xs.length) 2 ++ be tag 2) rfl (x := p / 8)) mm_X7_add wd_332 rfl (hG 17 (by decide)) sh_17 rfl (by decide) rfl (Nat.le_of_ble_eq_true rfl) dX0_divideRest_79 ?_
          rintro _ _ rfl
          show TW G X (tw_uR (tw_uR S1 17 (be (57344 + xs.length) 2 ++ be tag 2)) 17 (((be (57344 + xs.length) 2 ++ be tag 2) ++ [(p / 8) % 256]).take (tw_cap 17))) [(10, .int (nI xs.length)), (9, .int (nI k)), (8, .int (nI p)), (7, .int (nI (size - 5))), (6, .int (nI xs.length)), (0, .ref (tw_ad G 14)), (1, .ref (tw_ad G 1)), (2, .int (nI p0)), (3, .int (nI size)), (4, .int (nI tag)), (5, .ref (tw_ad G 12))] 82 []
          refine TW.sS (S' := tw_uR S1 17 (((be (57344 + xs.length) 2 ++ be tag 2) ++ [(p / 8) % 256]).take (tw_cap 17))) (tw_uR_uR _ _ _ _) ?_
          refine tw_aload_n C dX0_divideRest_82 5 rfl ?_
          refine tw_getR (q := 17) (k := 2) C dX0_divideRest_83 fc_X0 sh_14 (hG 14 (by decide)) rfl (by decide) wd_87 ?_
          refine tw_aload_n C dX0_divideRest_86 6 rfl ?_
          refine tw_iload C dX0_divideRest_87 2 rfl ?_
          refine tw_iload C dX0_divideRest_89 0 rfl ?_
          refine tw_callV (As := [.ref (tw_ad G 1), .int (nI p), .int (nI xs.length)]) (rest := []) C N (e_X7_addAll hG (S := tw_uR S1 17 (((be (57344 + xs.length) 2 ++ be tag 2) ++ [(p / 8) % 256]).take (tw_cap 17))) tw_row17 (xs := ((be (57344 + xs.length) 2 ++ be tag 2) ++ [(p / 8) % 256]).take (tw_cap 17)) rfl tw_row1 (by decide) (ys := xs) hx1 (a := p) (e := xs.length) (by omega) (by omega)) mm_X7_addAll wd_326 rfl (hG 17 (by decide)) sh_17 rfl (by decide) rfl (Nat.le_of_ble_eq_true rfl) dX0_divideRest_91 ?_
          rintro _ _ rfl
          show TW G X (tw_uR (tw_uR S1 17 (((be (57344 + xs.length) 2 ++ be tag 2) ++ [(p / 8) % 256]).take (tw_cap 17))) 17 (((((be (57344 + xs.length) 2 ++ be tag 2) ++ [(p / 8) % 256]).take (tw_cap 17)) ++ cutD xs p (xs.length - p)).take (tw_cap 17))) [(10, .int (nI xs.length)), (9, .int (nI k)), (8, .int (nI p)), (7, .int (nI (size - 5))), (6, .int (nI xs.length)), (0, .ref (tw_ad G 14)), (1, .ref (tw_ad G 1)), (2, .int (nI p0)), (3, .int (nI size)), (4, .int (nI tag)), (5, .ref (tw_ad G 12))] 94 []
          refine TW.sS (S' := tw_uR S1 17 (((be (57344 + xs.length) 2 ++ be tag 2) ++ [(p / 8) % 256] ++ cutD xs p (xs.length - p)).take (tw_cap 17))) (by rw [tw_uR_uR, tk_tk]) ?_
          refine TW.sS (S' := tw_uR S1 17 ((be (57344 + xs.length) 2 ++ be tag 2) ++ [(p / 8) % 256] ++ cutD xs p (xs.length - p))) (by rw [List.take_of_length_le (by simp only [List.length_append, be_len, cutD_len, List.length_cons, List.length_nil]; show _ ≤ 120; omega)]) ?_
          refine tw_aload C dX0_divideRest_94 10 rfl ?_
          refine tw_iload C dX0_divideRest_96 1 rfl ?_
          refine tw_aload_n C dX0_divideRest_98 5 rfl ?_
          refine tw_getR (q := 17) (k := 2) C dX0_divideRest_99 fc_X0 sh_14 (hG 14 (by decide)) rfl (by decide) wd_87 ?_
          refine tw_callV (As := [.int (nI k), .ref (tw_ad G 17)]) (rest := []) C N (hlk ▸ c_X1_store0 hG (S := tw_uR S1 17 ((be (57344 + xs.length) 2 ++ be tag 2) ++ [(p / 8) % 256] ++ cutD xs p (xs.length - p))) (fr := fr) (FRM_uR (by decide) hF1) tw_row17 (by decide) (ys := (be (57344 + xs.length) 2 ++ be tag 2) ++ [(p / 8) % 256] ++ cutD xs p (xs.length - p)) rfl (by omega)) mm_X1_store wd_306 rfl (hG 12 (by decide)) sh_12 rfl (by decide) rfl (Nat.le_of_ble_eq_true rfl) dX0_divideRest_102 ?_
          rintro _ _ ⟨rfl, rfl⟩
          show TW G X (tw_uI (tw_uR (tw_uR S1 17 ((be (57344 + xs.length) 2 ++ be tag 2) ++ [(p / 8) % 256] ++ cutD xs p (xs.length - p))) (34 + 2 * k) (((be (57344 + xs.length) 2 ++ be tag 2) ++ [(p / 8) % 256] ++ cutD xs p (xs.length - p)).take 120)) 12 1 (nI (k + 1))) [(10, .int (nI xs.length)), (9, .int (nI k)), (8, .int (nI p)), (7, .int (nI (size - 5))), (6, .int (nI xs.length)), (0, .ref (tw_ad G 14)), (1, .ref (tw_ad G 1)), (2, .int (nI p0)), (3, .int (nI size)), (4, .int (nI tag)), (5, .ref (tw_ad G 12))] 105 [.int (bI true)]
          refine tw_pop C dX0_divideRest_105 rfl ?_
          have hFn : FRM (tw_uI (tw_uR (tw_uR S1 17 ((be (57344 + xs.length) 2 ++ be tag 2) ++ [(p / 8) % 256] ++ cutD xs p (xs.length - p))) (34 + 2 * k) (((be (57344 + xs.length) 2 ++ be tag 2) ++ [(p / 8) % 256] ++ cutD xs p (xs.length - p)).take 120)) 12 1 (nI (k + 1))) (fr ++ [(be (57344 + xs.length) 2 ++ be tag 2) ++ [(p / 8) % 256] ++ cutD xs p (xs.length - p)]) := (by have h := FRM_push (x := (be (57344 + xs.length) 2 ++ be tag 2) ++ [(p / 8) % 256] ++ cutD xs p (xs.length - p)) (FRM_uR (r := 17) (x := (be (57344 + xs.length) 2 ++ be tag 2) ++ [(p / 8) % 256] ++ cutD xs p (xs.length - p)) (by decide) hF1) (by omega); rw [List.take_of_length_le (by simp only [List.length_append, be_len, cutD_len, List.length_cons, List.length_nil]; omega), ← hlk]; exact h)
          have hDn : dS S (tw_uI (tw_uR (tw_uR S1 17 ((be (57344 + xs.length) 2 ++ be tag 2) ++ [(p / 8) % 256] ++ cutD xs p (xs.length - p))) (34 + 2 * k) (((be (57344 + xs.length) 2 ++ be tag 2) ++ [(p / 8) % 256] ++ cutD xs p (xs.length - p)).take 120)) 12 1 (nI (k + 1))) := (dS_uI (dS_uR (dS_uR hD (Or.inr (Or.inl rfl))) (Or.inr (Or.inr (by omega)))))
          generalize hgen : tw_uI (tw_uR (tw_uR S1 17 ((be (57344 + xs.length) 2 ++ be tag 2) ++ [(p / 8) % 256] ++ cutD xs p (xs.length - p))) (34 + 2 * k) (((be (57344 + xs.length) 2 ++ be tag 2) ++ [(p / 8) % 256] ++ cutD xs p (xs.length - p)).take 120)) 12 1 (nI (k + 1)) = S2 at hFn hDn ⊢
          clear hgen
          refine tw_iload C dX0_divideRest_106 0 rfl ?_
          refine tw_istore (L' := [(8, .int (nI xs.length)), (10, .int (nI xs.length)), (9, .int (nI k)), (7, .int (nI (size - 5))), (6, .int (nI xs.length)), (0, .ref (tw_ad G 14)), (1, .ref (tw_ad G 1)), (2, .int (nI p0)), (3, .int (nI size)), (4, .int (nI tag)), (5, .ref (tw_ad G 12))]) C N dX0_divideRest_108 (i := 8) (by decide) rfl ?_
          refine tw_iinc (k := 2) (v := nI (k + 1)) (L' := [(9, .int (nI (k + 1))), (8, .int (nI xs.length)), (10, .int (nI xs.length)), (7, .int (nI (size - 5))), (6, .int (nI xs.length)), (0, .ref (tw_ad G 14)), (1, .ref (tw_ad G 1)), (2, .int (nI p0)), (3, .int (nI size)), (4, .int (nI tag)), (5, .ref (tw_ad G 12))]) C N dX0_divideRest_110 rfl (tn_inc1 _) (by decide) rfl ?_
          refine tw_goto C dX0_divideRest_113 (tgt := 17) (by decide) ?_
          refine TW.c (L' := [(9, .int (nI (k + 1))), (8, .int (nI xs.length)), (7, .int (nI (size - 5))), (6, .int (nI xs.length)), (0, .ref (tw_ad G 14)), (1, .ref (tw_ad G 1)), (2, .int (nI p0)), (3, .int (nI size)), (4, .int (nI tag)), (5, .ref (tw_ad G 12))]) (by simp) ?_
          exact ih (k + 1) xs.length S2 _ (by omega) hFn (by simp; omega) (by rw [← hfr, cutR_go (by omega)]; unfold cutE; rw [if_pos (show xs.length - p ≤ size - 5 by omega)]; simp) hDn (by omega) (by omega)
  refine tw_aload_n C dX0_divideRest_0 1 rfl ?_
  refine tw_callV (As := []) (rest := []) C N (e_X7_length hG (S := S) tw_row1 (xs := xs) hx ) mm_X7_length wd_301 rfl (hG 1 (by decide)) sh_1 rfl (by decide) rfl (Nat.le_of_ble_eq_true rfl) dX0_divideRest_1 ?_
  rintro _ _ ⟨rfl, rfl⟩
  show TW G X S [(0, .ref (tw_ad G 14)), (1, .ref (tw_ad G 1)), (2, .int (nI p0)), (3, .int (nI size)), (4, .int (nI tag)), (5, .ref (tw_ad G 12))] 4 [.int (nI xs.length)]
  refine tw_istore (L' := [(6, .int (nI xs.length)), (0, .ref (tw_ad G 14)), (1, .ref (tw_ad G 1)), (2, .int (nI p0)), (3, .int (nI size)), (4, .int (nI tag)), (5, .ref (tw_ad G 12))]) C N dX0_divideRest_4 (i := 6) (by decide) rfl ?_
  refine tw_iload_n C dX0_divideRest_6 4 rfl ?_
  refine tw_iconst C dX0_divideRest_7 (v := nI 5) (by decide) ?_
  refine tw_isub C dX0_divideRest_8 (v := nI (size - 5)) (pk_sub (by omega)) ?_
  refine tw_istore (L' := [(7, .int (nI (size - 5))), (6, .int (nI xs.length)), (0, .ref (tw_ad G 14)), (1, .ref (tw_ad G 1)), (2, .int (nI p0)), (3, .int (nI size)), (4, .int (nI tag)), (5, .ref (tw_ad G 12))]) C N dX0_divideRest_9 (i := 7) (by decide) rfl ?_
  refine tw_iload_n C dX0_divideRest_11 4 rfl ?_
  refine tw_istore (L' := [(8, .int (nI p0)), (7, .int (nI (size - 5))), (6, .int (nI xs.length)), (0, .ref (tw_ad G 14)), (1, .ref (tw_ad G 1)), (2, .int (nI p0)), (3, .int (nI size)), (4, .int (nI tag)), (5, .ref (tw_ad G 12))]) C N dX0_divideRest_12 (i := 8) (by decide) rfl ?_
  refine tw_iconst C dX0_divideRest_14 (v := nI 1) (by decide) ?_
  refine tw_istore (L' := [(9, .int (nI 1)), (8, .int (nI p0)), (7, .int (nI (size - 5))), (6, .int (nI xs.length)), (0, .ref (tw_ad G 14)), (1, .ref (tw_ad G 1)), (2, .int (nI p0)), (3, .int (nI size)), (4, .int (nI tag)), (5, .ref (tw_ad G 12))]) C N dX0_divideRest_15 (i := 9) (by decide) rfl ?_
  exact loop 39 1 p0 S [f0] rfl hF rfl rfl (dS_rf S) (by omega) hp0
theorem dS_tr {S S1 S2 : tw_S} (h : dS S S1) (g : dS S1 S2) : dS S S2 := ⟨fun r a b c => (g.1 r a b c).trans (h.1 r a b c), fun r k a => (g.2.1 r k a).trans (h.2.1 r k a), g.2.2.1.trans h.2.2.1, g.2.2.2.1.trans h.2.2.2.1, g.2.2.2.2.trans h.2.2.2.2⟩
theorem hasP_len {xs : List Nat} (h : 40 ≤ xs.length) : pkH xs ≤ xs.length := by
  unfold pkH
  split
  · rename_i hp
    exact ((hasPB_iff xs).mp hp).2.1
  · exact h
theorem sqAll_length (K : kN) (xs : List Nat) : (sqAll K xs).length = (sqHd K xs).length + (xs.length - pkH xs) := by simp [sqAll, cutD_len]
theorem nI_ge0 {a b : Nat} (ha : a < 2 ^ 30) (hb : b < 2 ^ 30) (h : a < b) : ¬ (0 : Int32) ≤ nI a - nI b := by
  have h1 := pk_sneg hb h
  rw [Int32.lt_iff_toInt_lt] at h1
  rw [Int32.le_iff_toInt_le]
  omega
theorem c_X0_divide {G : tw_G} (hG : tw_cG G) {S : tw_S} {K : kN} (hK : KN S K) {xs : List Nat} (hx : tw_R S 1 = xs) (hz : 40 ≤ xs.length ∧ xs.length ≤ 600) {fr : List (List Nat)} (hF : FRM S fr) {size tag : Nat} (hs : 40 ≤ size ∧ size ≤ 120) (ht : tag < 65536) : tw_M G yX0_divide cX0_divide 8 (some .int) 5 130 [.ref (tw_ad G 14), .ref (tw_ad G 1), .int (nI size), .int (nI tag), .ref (tw_ad G 12)] S ri_I (fun v S' => match cutA (sqAll K xs) (sqHd K xs).length (pkH xs) xs size tag with | some fs => v = nI fs.length ∧ FRM S' fs ∧ dS S S' | none => v = -3 ∧ FRM S' fr ∧ dS S S') := by
  refine tw_M.of (L := [(0, .ref (tw_ad G 14)), (1, .ref (tw_ad G 1)), (2, .int (nI size)), (3, .int (nI tag)), (4, .ref (tw_ad G 12))]) (by decide) (Nat.le_of_ble_eq_true rfl) rfl (fun X C N Q => ?_)
  have C : tw_C G X cX0_divide RX0 := C
  have hsq := sqAll_len K hz.2
  have hh := sqHd_len K xs
  have hla := sqAll_length K xs
  have hle := hasP_len hz.1
  refine tw_aload_n C dX0_divide_0 0 rfl ?_
  refine tw_getR (q := 8) (k := 0) C dX0_divide_1 fc_X0 sh_14 (hG 14 (by decide)) rfl (by decide) wd_88 ?_
  refine tw_aload_n C dX0_divide_4 1 rfl ?_
  refine tw_aload_n C dX0_divide_5 0 rfl ?_
  refine tw_getR (q := 15) (k := 1) C dX0_divide_6 fc_X0 sh_14 (hG 14 (by decide)) rfl (by decide) wd_86 ?_
  refine tw_callV (As := [.ref (tw_ad G 1), .ref (tw_ad G 15)]) (rest := []) C N (c_X8_write hG (S := S) hK tw_row15 (by decide) (xs := xs) (ys := tw_R S 15) hx rfl) mm_X8_write wd_213 rfl (hG 8 (by decide)) sh_8 rfl (by decide) rfl (Nat.le_of_ble_eq_true rfl) dX0_divide_9 ?_
  rintro _ _ ⟨rfl, rfl⟩
  show TW G X (tw_uR S 15 ((sqAll K xs).take (tw_cap 15))) [(0, .ref (tw_ad G 14)), (1, .ref (tw_ad G 1)), (2, .int (nI size)), (3, .int (nI tag)), (4, .ref (tw_ad G 12))] 12 [.int (nI ((sqHd K xs).length))]
  refine TW.sS (S' := tw_uR S 15 (sqAll K xs)) (by rw [List.take_of_length_le (show (sqAll K xs).length ≤ tw_cap 15 from hsq)]) ?_
  refine tw_istore (L' := [(5, .int (nI ((sqHd K xs).length))), (0, .ref (tw_ad G 14)), (1, .ref (tw_ad G 1)), (2, .int (nI size)), (3, .int (nI tag)), (4, .ref (tw_ad G 12))]) C N dX0_divide_12 (i := 5) (by decide) rfl ?_
  refine tw_aload_n C dX0_divide_14 1 rfl ?_
  refine tw_getR (q := 15) (k := 1) C dX0_divide_15 fc_X0 sh_14 (hG 14 (by decide)) rfl (by decide) wd_86 ?_
  refine tw_callV (As := []) (rest := []) C N (e_X7_length hG (S := tw_uR S 15 (sqAll K xs)) tw_row15 (xs := sqAll K xs) rfl ) mm_X7_length wd_301 rfl (hG 15 (by decide)) sh_15 rfl (by decide) rfl (Nat.le_of_ble_eq_true rfl) dX0_divide_18 ?_
  rintro _ _ ⟨rfl, rfl⟩
  show TW G X (tw_uR S 15 (sqAll K xs)) [(5, .int (nI ((sqHd K xs).length))), (0, .ref (tw_ad G 14)), (1, .ref (tw_ad G 1)), (2, .int (nI size)), (3, .int (nI tag)), (4, .ref (tw_ad G 12))] 21 [.int (nI ((sqAll K xs).length))]
  refine tw_iload_n C dX0_divide_21 3 rfl ?_
  refine tn_icmp_gt C dX0_divide_22 (tgt := 47) (by decide) (by omega) (by omega) (fun c1 => ?_) (fun c1 => ?_)
  · skip
    refine tw_iload_n C dX0_divide_47 3 rfl ?_
    refine tw_iconst C dX0_divide_48 (v := nI 4) (by decide) ?_
    refine tw_isub C dX0_divide_49 (v := nI (size - 4)) (pk_sub (by omega)) ?_
    refine tw_iload C dX0_divide_50 0 rfl ?_
    rcases Nat.lt_or_ge (size - 4) (sqHd K xs).length with hb | hb
    · skip
      refine tw_isub C dX0_divide_52 (v := (nI (size - 4)) - (nI ((sqHd K xs).length))) rfl ?_
      refine tw_istore (L' := [(6, .int ((nI (size - 4)) - (nI ((sqHd K xs).length)))), (5, .int (nI ((sqHd K xs).length))), (0, .ref (tw_ad G 14)), (1, .ref (tw_ad G 1)), (2, .int (nI size)), (3, .int (nI tag)), (4, .ref (tw_ad G 12))]) C N dX0_divide_53 (i := 6) (by decide) rfl ?_
      refine tw_iload C dX0_divide_55 0 rfl ?_
      refine tw_if_ge C dX0_divide_57 (tgt := 63) (by decide) (fun c9 => ?_) (fun c9 => ?_)
      · exact absurd c9 (nI_ge0 (by omega) (by omega) hb)
      refine tw_bipush C dX0_divide_60 (v := (-3)) (by decide) ?_
      exact tw_ireturn C Q dX0_divide_62 rfl rfl rfl (by rw [cutA, if_neg (by omega), if_pos (by omega)]; exact ⟨rfl, FRM_uR (by decide) hF, dS_uR (dS_rf S) (Or.inl rfl)⟩)
    · skip
      refine tw_isub C dX0_divide_52 (v := nI ((size - 4) - ((sqHd K xs).length))) (pk_sub (by omega)) ?_
      refine tw_istore (L' := [(6, .int (nI ((size - 4) - ((sqHd K xs).length)))), (5, .int (nI ((sqHd K xs).length))), (0, .ref (tw_ad G 14)), (1, .ref (tw_ad G 1)), (2, .int (nI size)), (3, .int (nI tag)), (4, .ref (tw_ad G 12))]) C N dX0_divide_53 (i := 6) (by decide) rfl ?_
      refine tw_iload C dX0_divide_55 0 rfl ?_
      refine tn_if_ge C dX0_divide_57 (tgt := 63) (by decide) (by omega) (fun c3 => ?_) (fun c3 => ?_)
      · skip
        refine tw_iload C dX0_divide_63 0 rfl ?_
        refine tw_bipush C dX0_divide_65 (v := nI 8) (by decide) ?_
        refine tw_idiv C dX0_divide_67 (by decide) (v := nI (((size - 4) - ((sqHd K xs).length)) / 8)) (pk_div (by omega) (by decide) (by decide)) ?_
        refine tw_bipush C dX0_divide_68 (v := nI 8) (by decide) ?_
        refine tw_imul C dX0_divide_70 (v := nI ((((size - 4) - ((sqHd K xs).length)) / 8) * 8)) (pk_mul _ _) ?_
        show TW G X (tw_uR S 15 (sqAll K xs)) [(6, .int (nI ((size - 4) - ((sqHd K xs).length)))), (5, .int (nI ((sqHd K xs).length))), (0, .ref (tw_ad G 14)), (1, .ref (tw_ad G 1)), (2, .int (nI size)), (3, .int (nI tag)), (4, .ref (tw_ad G 12))] 71 [.int (nI (cutM ((sqHd K xs).length) size))]
        refine tw_istore (L' := [(7, .int (nI (cutM ((sqHd K xs).length) size))), (6, .int (nI ((size - 4) - ((sqHd K xs).length)))), (5, .int (nI ((sqHd K xs).length))), (0, .ref (tw_ad G 14)), (1, .ref (tw_ad G 1)), (2, .int (nI size)), (3, .int (nI tag)), (4, .ref (tw_ad G 12))]) C N dX0_divide_71 (i := 7) (by decide) rfl ?_
        have hcm : cutM (sqHd K xs).length size ≤ size := by unfold cutM; omega
        refine tw_aload_n C dX0_divide_73 3 rfl ?_
        refine tw_sipush C dX0_divide_74 (v := nI 192) (by decide) ?_
        refine tw_aload_n C dX0_divide_77 4 rfl ?_
        refine tw_callV (As := []) (rest := [.int (nI 192), .ref (tw_ad G 14)]) C N (e_X7_length hG (S := tw_uR S 15 (sqAll K xs)) tw_row1 (xs := xs) hx ) mm_X7_length wd_301 rfl (hG 1 (by decide)) sh_1 rfl (by decide) rfl (Nat.le_of_ble_eq_true rfl) dX0_divide_78 ?_
        rintro _ _ ⟨rfl, rfl⟩
        show TW G X (tw_uR S 15 (sqAll K xs)) [(7, .int (nI (cutM ((sqHd K xs).length) size))), (6, .int (nI ((size - 4) - ((sqHd K xs).length)))), (5, .int (nI ((sqHd K xs).length))), (0, .ref (tw_ad G 14)), (1, .ref (tw_ad G 1)), (2, .int (nI size)), (3, .int (nI tag)), (4, .ref (tw_ad G 12))] 81 [.int (nI xs.length), .int (nI 192), .ref (tw_ad G 14)]
        refine tw_iload_n C dX0_divide_81 6 rfl ?_
        refine tw_callV (As := [.int (nI 192), .int (nI xs.length), .int (nI tag)]) (rest := []) C N (c_X0_begin0 hG (S := tw_uR S 15 (sqAll K xs)) (z := xs.length) (tag := tag) (by omega) (by omega)) mm_X0_begin wd_320 rfl (hG 14 (by decide)) sh_14 rfl (by decide) rfl (Nat.le_of_ble_eq_true rfl) dX0_divide_82 ?_
        rintro _ _ rfl
        show TW G X (tw_uR (tw_uR S 15 (sqAll K xs)) 17 (be (49152 + xs.length) 2 ++ be tag 2)) [(7, .int (nI (cutM ((sqHd K xs).length) size))), (6, .int (nI ((size - 4) - ((sqHd K xs).length)))), (5, .int (nI ((sqHd K xs).length))), (0, .ref (tw_ad G 14)), (1, .ref (tw_ad G 1)), (2, .int (nI size)), (3, .int (nI tag)), (4, .ref (tw_ad G 12))] 85 []
        refine tw_aload_n C dX0_divide_85 3 rfl ?_
        refine tw_getR (q := 17) (k := 2) C dX0_divide_86 fc_X0 sh_14 (hG 14 (by decide)) rfl (by decide) wd_87 ?_
        refine tw_aload_n C dX0_divide_89 3 rfl ?_
        refine tw_getR (q := 15) (k := 1) C dX0_divide_90 fc_X0 sh_14 (hG 14 (by decide)) rfl (by decide) wd_86 ?_
        refine tw_iconst C dX0_divide_93 (v := nI 0) (by decide) ?_
        refine tw_iload C dX0_divide_94 2 rfl ?_
        refine tw_iload C dX0_divide_96 0 rfl ?_
        refine tw_iadd C dX0_divide_98 (v := nI (((sqHd K xs).length) + (cutM ((sqHd K xs).length) size))) (nI_add _ _) ?_
        refine tw_callV (As := [.ref (tw_ad G 15), .int (nI 0), .int (nI (((sqHd K xs).length) + (cutM ((sqHd K xs).length) size)))]) (rest := []) C N (e_X7_addAll hG (S := tw_uR (tw_uR S 15 (sqAll K xs)) 17 (be (49152 + xs.length) 2 ++ be tag 2)) tw_row17 (xs := be (49152 + xs.length) 2 ++ be tag 2) rfl tw_row15 (by decide) (ys := sqAll K xs) rfl (a := 0) (e := ((sqHd K xs).length) + (cutM ((sqHd K xs).length) size)) (by omega) (by omega)) mm_X7_addAll wd_326 rfl (hG 17 (by decide)) sh_17 rfl (by decide) rfl (Nat.le_of_ble_eq_true rfl) dX0_divide_99 ?_
        rintro _ _ rfl
        show TW G X (tw_uR (tw_uR (tw_uR S 15 (sqAll K xs)) 17 (be (49152 + xs.length) 2 ++ be tag 2)) 17 (((be (49152 + xs.length) 2 ++ be tag 2) ++ cutD (sqAll K xs) 0 ((((sqHd K xs).length) + (cutM ((sqHd K xs).length) size)) - 0)).take (tw_cap 17))) [(7, .int (nI (cutM ((sqHd K xs).length) size))), (6, .int (nI ((size - 4) - ((sqHd K xs).length)))), (5, .int (nI ((sqHd K xs).length))), (0, .ref (tw_ad G 14)), (1, .ref (tw_ad G 1)), (2, .int (nI size)), (3, .int (nI tag)), (4, .ref (tw_ad G 12))] 102 []
        refine TW.sS (S' := tw_uR (tw_uR S 15 (sqAll K xs)) 17 (((be (49152 + xs.length) 2 ++ be tag 2) ++ cutD (sqAll K xs) 0 ((((sqHd K xs).length) + (cutM ((sqHd K xs).length) size)) - 0)).take (tw_cap 17))) (tw_uR_uR _ _ _ _) ?_
        refine TW.sS (S' := tw_uR (tw_uR S 15 (sqAll K xs)) 17 (be (49152 + xs.length) 2 ++ be tag 2 ++ cutD (sqAll K xs) 0 ((sqHd K xs).length + cutM ((sqHd K xs).length) size))) (by rw [List.take_of_length_le (by simp only [List.length_append, be_len, cutD_len]; show _ ≤ 120; unfold cutM; omega), Nat.sub_zero]) ?_
        refine tw_aload C dX0_divide_102 7 rfl ?_
        refine tw_callV (As := []) (rest := []) C N (c_X1_clear hG (S := tw_uR (tw_uR S 15 (sqAll K xs)) 17 (be (49152 + xs.length) 2 ++ be tag 2 ++ cutD (sqAll K xs) 0 ((sqHd K xs).length + cutM ((sqHd K xs).length) size)))) mm_X1_clear wd_302 rfl (hG 12 (by decide)) sh_12 rfl (by decide) rfl (Nat.le_of_ble_eq_true rfl) dX0_divide_104 ?_
        rintro _ _ rfl
        show TW G X (tw_uI (tw_uR (tw_uR S 15 (sqAll K xs)) 17 (be (49152 + xs.length) 2 ++ be tag 2 ++ cutD (sqAll K xs) 0 ((sqHd K xs).length + cutM ((sqHd K xs).length) size))) 12 1 (nI 0)) [(7, .int (nI (cutM ((sqHd K xs).length) size))), (6, .int (nI ((size - 4) - ((sqHd K xs).length)))), (5, .int (nI ((sqHd K xs).length))), (0, .ref (tw_ad G 14)), (1, .ref (tw_ad G 1)), (2, .int (nI size)), (3, .int (nI tag)), (4, .ref (tw_ad G 12))] 107 []
        refine tw_aload C dX0_divide_107 7 rfl ?_
        have hF0 : FRM (tw_uI (tw_uR (tw_uR S 15 (sqAll K xs)) 17 (be (49152 + xs.length) 2 ++ be tag 2 ++ cutD (sqAll K xs) 0 ((sqHd K xs).length + cutM ((sqHd K xs).length) size))) 12 1 (nI 0)) [] := FRM_clear _
        refine tw_iconst C dX0_divide_109 (v := nI 0) (by decide) ?_
        refine tw_aload_n C dX0_divide_110 3 rfl ?_
        refine tw_getR (q := 17) (k := 2) C dX0_divide_111 fc_X0 sh_14 (hG 14 (by decide)) rfl (by decide) wd_87 ?_
        refine tw_callV (As := [.int (nI 0), .ref (tw_ad G 17)]) (rest := []) C N (c_X1_store0 hG (S := tw_uI (tw_uR (tw_uR S 15 (sqAll K xs)) 17 (be (49152 + xs.length) 2 ++ be tag 2 ++ cutD (sqAll K xs) 0 ((sqHd K xs).length + cutM ((sqHd K xs).length) size))) 12 1 (nI 0)) (fr := []) hF0 tw_row17 (by decide) (ys := be (49152 + xs.length) 2 ++ be tag 2 ++ cutD (sqAll K xs) 0 ((sqHd K xs).length + cutM ((sqHd K xs).length) size)) rfl (by decide)) mm_X1_store wd_306 rfl (hG 12 (by decide)) sh_12 rfl (by decide) rfl (Nat.le_of_ble_eq_true rfl) dX0_divide_114 ?_
        rintro _ _ ⟨rfl, rfl⟩
        show TW G X (tw_uI (tw_uR (tw_uI (tw_uR (tw_uR S 15 (sqAll K xs)) 17 (be (49152 + xs.length) 2 ++ be tag 2 ++ cutD (sqAll K xs) 0 ((sqHd K xs).length + cutM ((sqHd K xs).length) size))) 12 1 (nI 0)) (34 + 2 * ([] : List (List Nat)).length) ((be (49152 + xs.length) 2 ++ be tag 2 ++ cutD (sqAll K xs) 0 ((sqHd K xs).length + cutM ((sqHd K xs).length) size)).take 120)) 12 1 (nI (([] : List (List Nat)).length + 1))) [(7, .int (nI (cutM ((sqHd K xs).length) size))), (6, .int (nI ((size - 4) - ((sqHd K xs).length)))), (5, .int (nI ((sqHd K xs).length))), (0, .ref (tw_ad G 14)), (1, .ref (tw_ad G 1)), (2, .int (nI size)), (3, .int (nI tag)), (4, .ref (tw_ad G 12))] 117 [.int (bI true)]
        refine tw_pop C dX0_divide_117 rfl ?_
        have hF1 : FRM (tw_uI (tw_uR (tw_uI (tw_uR (tw_uR S 15 (sqAll K xs)) 17 (be (49152 + xs.length) 2 ++ be tag 2 ++ cutD (sqAll K xs) 0 ((sqHd K xs).length + cutM ((sqHd K xs).length) size))) 12 1 (nI 0)) (34 + 2 * ([] : List (List Nat)).length) ((be (49152 + xs.length) 2 ++ be tag 2 ++ cutD (sqAll K xs) 0 ((sqHd K xs).length + cutM ((sqHd K xs).length) size)).take 120)) 12 1 (nI (([] : List (List Nat)).length + 1))) [be (49152 + xs.length) 2 ++ be tag 2 ++ cutD (sqAll K xs) 0 ((sqHd K xs).length + cutM ((sqHd K xs).length) size)] := (by have h := FRM_push (x := be (49152 + xs.length) 2 ++ be tag 2 ++ cutD (sqAll K xs) 0 ((sqHd K xs).length + cutM ((sqHd K xs).length) size)) hF0 (by decide); rw [List.take_of_length_le (by simp only [List.length_append, be_len, cutD_len]; unfold cutM; omega)]; exact h)
        have hD1 : dS S (tw_uI (tw_uR (tw_uI (tw_uR (tw_uR S 15 (sqAll K xs)) 17 (be (49152 + xs.length) 2 ++ be tag 2 ++ cutD (sqAll K xs) 0 ((sqHd K xs).length + cutM ((sqHd K xs).length) size))) 12 1 (nI 0)) (34 + 2 * ([] : List (List Nat)).length) ((be (49152 + xs.length) 2 ++ be tag 2 ++ cutD (sqAll K xs) 0 ((sqHd K xs).length + cutM ((sqHd K xs).length) size)).take 120)) 12 1 (nI (([] : List (List Nat)).length + 1))) := (dS_uI (dS_uR (dS_uI (dS_uR (dS_uR (dS_rf S) (Or.inl rfl)) (Or.inr (Or.inl rfl)))) (Or.inr (Or.inr (by decide)))))
        have hx1 : tw_R (tw_uI (tw_uR (tw_uI (tw_uR (tw_uR S 15 (sqAll K xs)) 17 (be (49152 + xs.length) 2 ++ be tag 2 ++ cutD (sqAll K xs) 0 ((sqHd K xs).length + cutM ((sqHd K xs).length) size))) 12 1 (nI 0)) (34 + 2 * ([] : List (List Nat)).length) ((be (49152 + xs.length) 2 ++ be tag 2 ++ cutD (sqAll K xs) 0 ((sqHd K xs).length + cutM ((sqHd K xs).length) size)).take 120)) 12 1 (nI (([] : List (List Nat)).length + 1))) 1 = xs := hx
        generalize hgen : tw_uI (tw_uR (tw_uI (tw_uR (tw_uR S 15 (sqAll K xs)) 17 (be (49152 + xs.length) 2 ++ be tag 2 ++ cutD (sqAll K xs) 0 ((sqHd K xs).length + cutM ((sqHd K xs).length) size))) 12 1 (nI 0)) (34 + 2 * ([] : List (List Nat)).length) ((be (49152 + xs.length) 2 ++ be tag 2 ++ cutD (sqAll K xs) 0 ((sqHd K xs).length + cutM ((sqHd K xs).length) size)).take 120)) 12 1 (nI (([] : List (List Nat)).length + 1)) = S1 at hF1 hD1 hx1 ⊢
        clear hgen
        refine tw_aload_n C dX0_divide_118 3 rfl ?_
        refine tw_aload_n C dX0_divide_119 4 rfl ?_
        refine tw_aload_n C dX0_divide_120 4 rfl ?_
        refine tw_callS (As := [.ref (tw_ad G 1)]) (rest := [.ref (tw_ad G 1), .ref (tw_ad G 14)]) C N (c_X5_headOf hG (S := S1) tw_row1 (xs := xs) hx1) mm_X5_headOf wd_327 rfl (by decide) rfl (Nat.le_of_ble_eq_true rfl) dX0_divide_121 ?_
        rintro _ _ ⟨rfl, rfl⟩
        show TW G X S1 [(7, .int (nI (cutM ((sqHd K xs).length) size))), (6, .int (nI ((size - 4) - ((sqHd K xs).length)))), (5, .int (nI ((sqHd K xs).length))), (0, .ref (tw_ad G 14)), (1, .ref (tw_ad G 1)), (2, .int (nI size)), (3, .int (nI tag)), (4, .ref (tw_ad G 12))] 124 [.int (nI (pkH xs)), .ref (tw_ad G 1), .ref (tw_ad G 14)]
        refine tw_iload C dX0_divide_124 0 rfl ?_
        refine tw_iadd C dX0_divide_126 (v := nI ((pkH xs) + (cutM ((sqHd K xs).length) size))) (nI_add _ _) ?_
        refine tw_iload_n C dX0_divide_127 5 rfl ?_
        refine tw_iload_n C dX0_divide_128 6 rfl ?_
        refine tw_aload C dX0_divide_129 7 rfl ?_
        refine tw_callV (As := [.ref (tw_ad G 1), .int (nI ((pkH xs) + (cutM ((sqHd K xs).length) size))), .int (nI size), .int (nI tag), .ref (tw_ad G 12)]) (rest := []) C N (c_X0_divideRest hG (S := S1) hx1 (by omega) hF1 (size := size) (tag := tag) (p0 := (pkH xs) + (cutM ((sqHd K xs).length) size)) hs ht (by have := hle; unfold pkH at *; unfold cutM at *; omega) (by unfold pkH; split <;> omega)) mm_X0_divideRest wd_328 rfl (hG 14 (by decide)) sh_14 rfl (by decide) rfl (Nat.le_of_ble_eq_true rfl) dX0_divide_131 ?_
        rintro v S2 ⟨hv, hFr, hd1⟩
        show TW G X S2 [(7, .int (nI (cutM ((sqHd K xs).length) size))), (6, .int (nI ((size - 4) - ((sqHd K xs).length)))), (5, .int (nI ((sqHd K xs).length))), (0, .ref (tw_ad G 14)), (1, .ref (tw_ad G 1)), (2, .int (nI size)), (3, .int (nI tag)), (4, .ref (tw_ad G 12))] 134 [.int v]
        have hdr := dS_tr hD1 hd1
        exact tw_ireturn C Q dX0_divide_134 rfl rfl rfl (by rw [cutA, if_neg (by omega), if_neg (by omega)]; exact ⟨hv, hFr, hdr⟩)
      · exact absurd trivial (by simp at c3)
  · skip
    refine tw_aload C dX0_divide_25 5 rfl ?_
    refine tw_callV (As := []) (rest := []) C N (c_X1_clear hG (S := tw_uR S 15 (sqAll K xs))) mm_X1_clear wd_302 rfl (hG 12 (by decide)) sh_12 rfl (by decide) rfl (Nat.le_of_ble_eq_true rfl) dX0_divide_27 ?_
    rintro _ _ rfl
    show TW G X (tw_uI (tw_uR S 15 (sqAll K xs)) 12 1 (nI 0)) [(5, .int (nI ((sqHd K xs).length))), (0, .ref (tw_ad G 14)), (1, .ref (tw_ad G 1)), (2, .int (nI size)), (3, .int (nI tag)), (4, .ref (tw_ad G 12))] 30 []
    refine tw_aload C dX0_divide_30 5 rfl ?_
    have hF0 : FRM (tw_uI (tw_uR S 15 (sqAll K xs)) 12 1 (nI 0)) [] := FRM_clear _
    refine tw_iconst C dX0_divide_32 (v := nI 0) (by decide) ?_
    refine tw_aload_n C dX0_divide_33 1 rfl ?_
    refine tw_getR (q := 15) (k := 1) C dX0_divide_34 fc_X0 sh_14 (hG 14 (by decide)) rfl (by decide) wd_86 ?_
    refine tw_callV (As := [.int (nI 0), .ref (tw_ad G 15)]) (rest := []) C N (c_X1_store0 hG (S := tw_uI (tw_uR S 15 (sqAll K xs)) 12 1 (nI 0)) (fr := []) hF0 tw_row15 (by decide) (ys := sqAll K xs) rfl (by decide)) mm_X1_store wd_306 rfl (hG 12 (by decide)) sh_12 rfl (by decide) rfl (Nat.le_of_ble_eq_true rfl) dX0_divide_37 ?_
    rintro _ _ ⟨rfl, rfl⟩
    show TW G X (tw_uI (tw_uR (tw_uI (tw_uR S 15 (sqAll K xs)) 12 1 (nI 0)) (34 + 2 * ([] : List (List Nat)).length) ((sqAll K xs).take 120)) 12 1 (nI (([] : List (List Nat)).length + 1))) [(5, .int (nI ((sqHd K xs).length))), (0, .ref (tw_ad G 14)), (1, .ref (tw_ad G 1)), (2, .int (nI size)), (3, .int (nI tag)), (4, .ref (tw_ad G 12))] 40 [.int (bI true)]
    refine tw_pop C dX0_divide_40 rfl ?_
    have hF1 : FRM (tw_uI (tw_uR (tw_uI (tw_uR S 15 (sqAll K xs)) 12 1 (nI 0)) (34 + 2 * ([] : List (List Nat)).length) ((sqAll K xs).take 120)) 12 1 (nI (([] : List (List Nat)).length + 1))) [sqAll K xs] := (by have h := FRM_push (x := sqAll K xs) hF0 (by decide); rw [List.take_of_length_le (by omega)]; exact h)
    have hD1 : dS S (tw_uI (tw_uR (tw_uI (tw_uR S 15 (sqAll K xs)) 12 1 (nI 0)) (34 + 2 * ([] : List (List Nat)).length) ((sqAll K xs).take 120)) 12 1 (nI (([] : List (List Nat)).length + 1))) := (dS_uI (dS_uR (dS_uI (dS_uR (dS_rf S) (Or.inl rfl))) (Or.inr (Or.inr (by decide)))))
    generalize hgen : tw_uI (tw_uR (tw_uI (tw_uR S 15 (sqAll K xs)) 12 1 (nI 0)) (34 + 2 * ([] : List (List Nat)).length) ((sqAll K xs).take 120)) 12 1 (nI (([] : List (List Nat)).length + 1)) = S1 at hF1 hD1 ⊢
    clear hgen
    refine tw_aload C dX0_divide_41 5 rfl ?_
    refine tw_callV (As := []) (rest := []) C N (c_X1_size hG (S := S1) (fr := [sqAll K xs]) hF1) mm_X1_size wd_316 rfl (hG 12 (by decide)) sh_12 rfl (by decide) rfl (Nat.le_of_ble_eq_true rfl) dX0_divide_43 ?_
    rintro _ _ ⟨rfl, rfl⟩
    show TW G X S1 [(5, .int (nI ((sqHd K xs).length))), (0, .ref (tw_ad G 14)), (1, .ref (tw_ad G 1)), (2, .int (nI size)), (3, .int (nI tag)), (4, .ref (tw_ad G 12))] 46 [.int (nI (([sqAll K xs]).length))]
    exact tw_ireturn C Q dX0_divide_46 rfl rfl rfl (by rw [cutA, if_pos (by omega)]; exact ⟨by rfl, hF1, hD1⟩)
