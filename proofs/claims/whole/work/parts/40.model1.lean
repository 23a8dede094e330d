/-! the model: its rows are arrays with a field for the length -/
def LA (f : Nat → Int32) (xs : List Nat) : Prop := ∀ i, i < xs.length → f i = nI (xs.getD i 0)
/-- the row (array r, its length in the model's field k) holds xs, by the array f -/
def MU (B : tw_S) (r k : Nat) (f : Nat → Int32) (xs : List Nat) : tw_S := tw_uI (tw_wA B r f) 114 k (nI xs.length)
theorem MU_MU (B : tw_S) (r k : Nat) (f g : Nat → Int32) (xs ys : List Nat) : MU (MU B r k f xs) r k g ys = MU B r k g ys := by
  simp only [MU, tw_uI, tw_wA, Prod.mk.injEq, true_and, and_true]
  refine ⟨?_, ?_⟩
  · funext q j
    by_cases h : q = 114 ∧ j = k <;> simp [h]
  · funext q j
    by_cases h : q = r <;> simp [h]
theorem MU_push (B : tw_S) (r k : Nat) (f : Nat → Int32) (xs : List Nat) (b : Nat) : tw_uI (tw_uA (MU B r k f xs) r xs.length (nI b)) 114 k (nI (xs.length + 1)) = MU B r k (upd f xs.length (nI b)) (xs ++ [b]) := by
  simp only [MU, tw_uI, tw_uA, tw_wA, Prod.mk.injEq, true_and, and_true, List.length_append, List.length_cons, List.length_nil, Nat.zero_add]
  refine ⟨?_, ?_⟩
  · funext q j
    by_cases h : q = 114 ∧ j = k <;> simp [h]
  · funext q j
    by_cases h : q = r
    · subst h
      by_cases h2 : j = xs.length <;> simp [h2, upd]
    · simp [h]
theorem LA_push {f : Nat → Int32} {xs : List Nat} {b : Nat} (h : LA f xs) : LA (upd f xs.length (nI b)) (xs ++ [b]) := by
  intro i hi
  by_cases hx : i = xs.length
  · subst hx
    simp [upd, List.getD_eq_getElem?_getD]
  · have hl : i < xs.length := by simp at hi; omega
    have e : (xs ++ [b]).getD i 0 = xs.getD i 0 := by simp [List.getD_eq_getElem?_getD, List.getElem?_append_left hl]
    rw [e]
    simp only [upd, hx, if_false]
    exact h i hl
theorem MU_self {S : tw_S} {r k : Nat} {xs : List Nat} (h : tw_I S 114 k = nI xs.length) : S = MU S r k (tw_A S r) xs := by
  obtain ⟨a, b, c, d, e⟩ := S
  simp only [MU, tw_uI, tw_wA, Prod.mk.injEq, true_and, and_true]
  refine ⟨?_, ?_⟩
  · funext q j
    by_cases hq : q = 114 ∧ j = k
    · rw [if_pos hq, hq.1, hq.2]; exact h
    · rw [if_neg hq]
  · funext q j
    by_cases hq : q = r
    · rw [if_pos hq, hq]; rfl
    · rw [if_neg hq]
theorem lN_sar {a s : Nat} (hs : s ≤ 56) : (lN a >>> ((nI s).toInt64 &&& 63)) &&& lN 255 = lN (a / 2 ^ s % 256) := by
  apply Int64.toBitVec_inj.mp
  rw [Int64.toBitVec_and, Int64.toBitVec_shiftRight, lN_c s (by omega)]
  simp only [BitVec.sshiftRight_eq', BitVec.toNat_ofNat]
  rw [Nat.mod_eq_of_lt (show s < 2 ^ 64 by omega)]
  have e : ((lN a).toBitVec.sshiftRight s &&& (lN 255).toBitVec) = ((lN a).toBitVec >>> s &&& (lN 255).toBitVec) := by
    apply BitVec.eq_of_getLsbD_eq
    intro i hi
    have h255 : (lN 255).toBitVec.getLsbD i = decide (i < 8) := by
      have h0 : ∀ i, i < 64 → (lN 255).toBitVec.getLsbD i = decide (i < 8) := by decide +kernel
      exact h0 i hi
    simp only [BitVec.getLsbD_and, h255, BitVec.getLsbD_sshiftRight, BitVec.getLsbD_ushiftRight]
    by_cases h8 : i < 8
    · have h1 : ¬ 64 ≤ i := by omega
      have h2 : s + i < 64 := by omega
      simp [h1, h2]
    · simp [h8]
  rw [e]
  apply BitVec.eq_of_toNat_eq
  have h0 : (lN 255).toBitVec.toNat = 2 ^ 8 - 1 := by decide +kernel
  rw [BitVec.toNat_and, h0, BitVec.toNat_ushiftRight, lN_toNat, lN_toNat, Nat.and_two_pow_sub_one_eq_mod, Nat.shiftRight_eq_div_pow, Nat.mod_eq_of_lt (show a / 2 ^ s % 256 < 2 ^ 64 from Nat.lt_trans (Nat.mod_lt _ (by decide)) (by decide))]
  obtain ⟨t, rfl⟩ : ∃ t, t = 56 - s := ⟨_, rfl⟩
  have h3 : (2 : Nat) ^ 64 = 2 ^ s * 2 ^ (64 - s) := by rw [← Nat.pow_add]; congr 1; omega
  rw [h3, Nat.mod_mul_right_div_self]
  have h4 : (2 : Nat) ^ (64 - s) = 2 ^ 8 * 2 ^ (56 - s) := by rw [← Nat.pow_add]; congr 1; omega
  rw [h4, Nat.mod_mul_right_mod]
theorem c_X11_in1 {G : tw_G} {S : tw_S} {v lo hi : Nat} (hv : v < 2 ^ 32) (hl : lo < 2 ^ 31) (hh : hi < 2 ^ 31) : tw_M G yX11_in cX11_in 3 (some .boolean) 0 0 [.int (nI v), .int (nI lo), .int (nI hi)] S ri_I (fun u S' => u = bI (decide (lo ≤ v ∧ v ≤ hi)) ∧ S = S') := by
  refine tw_M.of (L := [(0, .int (nI v)), (1, .int (nI lo)), (2, .int (nI hi))]) (by decide) (Nat.le_of_ble_eq_true rfl) rfl (fun X C N Q => ?_)
  have C : tw_C G X cX11_in RX11 := C
  rcases Nat.lt_or_ge v (2 ^ 31) with hv1 | hv1
  · skip
    refine tw_iload_n C dX11_in_0 0 rfl ?_
    refine tw_iload_n C dX11_in_1 1 rfl ?_
    refine tn_icmp_lt C dX11_in_2 (tgt := 14) (by decide) (by omega) (by omega) (fun c1 => ?_) (fun c1 => ?_)
    · skip
      refine tw_iconst C dX11_in_14 (v := nI 0) (by decide) ?_
      exact tw_ireturn C Q dX11_in_15 rfl rfl rfl ⟨bI_of_f (by omega), rfl⟩
    · skip
      refine tw_iload_n C dX11_in_5 0 rfl ?_
      refine tw_iload_n C dX11_in_6 2 rfl ?_
      refine tn_icmp_gt C dX11_in_7 (tgt := 14) (by decide) (by omega) (by omega) (fun c2 => ?_) (fun c2 => ?_)
      · skip
        refine tw_iconst C dX11_in_14 (v := nI 0) (by decide) ?_
        exact tw_ireturn C Q dX11_in_15 rfl rfl rfl ⟨bI_of_f (by omega), rfl⟩
      · skip
        refine tw_iconst C dX11_in_10 (v := nI 1) (by decide) ?_
        refine tw_goto C dX11_in_11 (tgt := 15) (by decide) ?_
        exact tw_ireturn C Q dX11_in_15 rfl rfl rfl ⟨bI_of_t (by omega), rfl⟩
  · have hneg := nI_negle hv1 hv hl
    refine tw_iload_n C dX11_in_0 0 rfl ?_
    refine tw_iload_n C dX11_in_1 1 rfl ?_
    refine tw_icmp_lt C dX11_in_2 (tgt := 14) (by decide) (fun c2 => ?_) (fun c2 => ?_)
    · skip
      refine tw_iconst C dX11_in_14 (v := nI 0) (by decide) ?_
      exact tw_ireturn C Q dX11_in_15 rfl rfl rfl ⟨bI_of_f (by omega), rfl⟩
    · exact absurd hneg c2
theorem c_X11_in0 {G : tw_G} {S : tw_S} {v m : Nat} (hv : v < 2 ^ 32) (hm : m < 2 ^ 30) : tw_M G yX11_in cX11_in 3 (some .boolean) 0 0 [.int (nI v), .int (nI 0), .int (nI m - nI 1)] S ri_I (fun u S' => u = bI (decide (v < m)) ∧ S = S') := by
  refine tw_M.of (L := [(0, .int (nI v)), (1, .int (nI 0)), (2, .int (nI m - nI 1))]) (by decide) (Nat.le_of_ble_eq_true rfl) rfl (fun X C N Q => ?_)
  have C : tw_C G X cX11_in RX11 := C
  rcases Nat.lt_or_ge v (2 ^ 31) with hv1 | hv1
  · rcases Nat.eq_zero_or_pos m with rfl | hm0
    · skip
      refine tw_iload_n C dX11_in_0 0 rfl ?_
      refine tw_iload_n C dX11_in_1 1 rfl ?_
      refine tn_icmp_lt C dX11_in_2 (tgt := 14) (by decide) (by omega) (by omega) (fun c1 => ?_) (fun c1 => ?_)
      · skip
        refine tw_iconst C dX11_in_14 (v := nI 0) (by decide) ?_
        exact tw_ireturn C Q dX11_in_15 rfl rfl rfl ⟨bI_of_f (by omega), rfl⟩
      · skip
        refine tw_iload_n C dX11_in_5 0 rfl ?_
        refine tw_iload_n C dX11_in_6 2 rfl ?_
        refine tw_icmp_gt C dX11_in_7 (tgt := 14) (by decide) (fun c7 => ?_) (fun c7 => ?_)
        · skip
          refine tw_iconst C dX11_in_14 (v := nI 0) (by decide) ?_
          exact tw_ireturn C Q dX11_in_15 rfl rfl rfl ⟨bI_of_f (by omega), rfl⟩
        · exact absurd (nI_lt_i hv1 (sub_neg (by decide) (by decide) (by decide))) c7
    · skip
      refine tw_iload_n C dX11_in_0 0 rfl ?_
      refine tw_iload_n C dX11_in_1 1 rfl ?_
      refine tn_icmp_lt C dX11_in_2 (tgt := 14) (by decide) (by omega) (by omega) (fun c1 => ?_) (fun c1 => ?_)
      · skip
        refine tw_iconst C dX11_in_14 (v := nI 0) (by decide) ?_
        exact tw_ireturn C Q dX11_in_15 rfl rfl rfl ⟨bI_of_f (by omega), rfl⟩
      · skip
        refine tw_iload_n C dX11_in_5 0 rfl ?_
        refine tw_iload_n C dX11_in_6 2 rfl ?_
        refine TW.ti (y := nI (m - 1)) (pk_sub (by omega)) ?_
        refine tn_icmp_gt C dX11_in_7 (tgt := 14) (by decide) (by omega) (by omega) (fun c2 => ?_) (fun c2 => ?_)
        · skip
          refine tw_iconst C dX11_in_14 (v := nI 0) (by decide) ?_
          exact tw_ireturn C Q dX11_in_15 rfl rfl rfl ⟨bI_of_f (by omega), rfl⟩
        · skip
          refine tw_iconst C dX11_in_10 (v := nI 1) (by decide) ?_
          refine tw_goto C dX11_in_11 (tgt := 15) (by decide) ?_
          exact tw_ireturn C Q dX11_in_15 rfl rfl rfl ⟨bI_of_t (by omega), rfl⟩
  · have hneg := nI_neg hv1 hv
    refine tw_iload_n C dX11_in_0 0 rfl ?_
    refine tw_iload_n C dX11_in_1 1 rfl ?_
    refine tw_icmp_lt C dX11_in_2 (tgt := 14) (by decide) (fun c2 => ?_) (fun c2 => ?_)
    · skip
      refine tw_iconst C dX11_in_14 (v := nI 0) (by decide) ?_
      exact tw_ireturn C Q dX11_in_15 rfl rfl rfl ⟨bI_of_f (by omega), rfl⟩
    · exact absurd hneg c2
theorem c_X11_lay {G : tw_G} (hM : tw_mG G) {B : tw_S} {f : Nat → Int32} {xs : List Nat} (hf : LA f xs) (hl : xs.length < 640) {b : Nat} : tw_M G yX11_lay cX11_lay 2 none 0 0 [.ref (tw_ad G 114), .int (nI b)] ((MU B 118 4 f xs)) ri_V (fun _ S' => ∃ g, S' = MU B 118 4 g (xs ++ [b % 256]) ∧ LA g (xs ++ [b % 256])) := by
  refine tw_M.of (L := [(0, .ref (tw_ad G 114)), (1, .int (nI b))]) (by decide) (Nat.le_of_ble_eq_true rfl) rfl (fun X C N Q => ?_)
  have C : tw_C G X cX11_lay RX11 := C
  refine tw_aload_n C dX11_lay_0 0 rfl ?_
  refine tw_getR (q := 118) (k := 3) C dX11_lay_1 fc_X11 sh_114 (hM 114 (by decide) (by decide)) rfl (by decide) wd_114 ?_
  refine tw_aload_n C dX11_lay_4 0 rfl ?_
  refine tw_getI (v := nI xs.length) (k := 4) C dX11_lay_5 fc_X11 sh_114 (hM 114 (by decide) (by decide)) rfl (by decide) wd_189 rfl ?_
  refine tw_iload_n C dX11_lay_8 1 rfl ?_
  refine tw_sipush C dX11_lay_9 (v := nI 255) (by decide) ?_
  refine tw_iand C dX11_lay_12 (v := nI (b % 256)) (nI_andm 8 (by decide)) ?_
  refine tw_iast C dX11_lay_13 sn_118 sa_118 (hM 118 (by decide) (by decide)) (by omega) (by decide) ?_
  refine tw_aload_n C dX11_lay_14 0 rfl ?_
  refine tw_dup C dX11_lay_15 rfl ?_
  refine tw_getI (v := nI xs.length) (k := 4) C dX11_lay_16 fc_X11 sh_114 (hM 114 (by decide) (by decide)) rfl (by decide) wd_189 rfl ?_
  refine tw_iconst C dX11_lay_19 (v := nI 1) (by decide) ?_
  refine tw_iadd C dX11_lay_20 (v := nI (xs.length + 1)) (nI_add _ _) ?_
  refine tw_putI (k := 4) C dX11_lay_21 fc_X11 sh_114 (hM 114 (by decide) (by decide)) rfl (by decide) rfl wd_189 rfl rfl ?_
  exact tw_return (v := ()) C Q dX11_lay_24 rfl rfl ⟨_, MU_push _ _ _ _ _ _, LA_push hf⟩
theorem c_X11_add {G : tw_G} (hM : tw_mG G) {B : tw_S} {f : Nat → Int32} {xs : List Nat} (hf : LA f xs) (hl : xs.length < 800) {b : Nat} : tw_M G yX11_add cX11_add 2 none 0 0 [.ref (tw_ad G 114), .int (nI b)] ((MU B 120 8 f xs)) ri_V (fun _ S' => ∃ g, S' = MU B 120 8 g (xs ++ [b % 256]) ∧ LA g (xs ++ [b % 256])) := by
  refine tw_M.of (L := [(0, .ref (tw_ad G 114)), (1, .int (nI b))]) (by decide) (Nat.le_of_ble_eq_true rfl) rfl (fun X C N Q => ?_)
  have C : tw_C G X cX11_add RX11 := C
  refine tw_aload_n C dX11_add_0 0 rfl ?_
  refine tw_getR (q := 120) (k := 7) C dX11_add_1 fc_X11 sh_114 (hM 114 (by decide) (by decide)) rfl (by decide) wd_116 ?_
  refine tw_aload_n C dX11_add_4 0 rfl ?_
  refine tw_getI (v := nI xs.length) (k := 8) C dX11_add_5 fc_X11 sh_114 (hM 114 (by decide) (by decide)) rfl (by decide) wd_390 rfl ?_
  refine tw_iload_n C dX11_add_8 1 rfl ?_
  refine tw_sipush C dX11_add_9 (v := nI 255) (by decide) ?_
  refine tw_iand C dX11_add_12 (v := nI (b % 256)) (nI_andm 8 (by decide)) ?_
  refine tw_iast C dX11_add_13 sn_120 sa_120 (hM 120 (by decide) (by decide)) (by omega) (by decide) ?_
  refine tw_aload_n C dX11_add_14 0 rfl ?_
  refine tw_dup C dX11_add_15 rfl ?_
  refine tw_getI (v := nI xs.length) (k := 8) C dX11_add_16 fc_X11 sh_114 (hM 114 (by decide) (by decide)) rfl (by decide) wd_390 rfl ?_
  refine tw_iconst C dX11_add_19 (v := nI 1) (by decide) ?_
  refine tw_iadd C dX11_add_20 (v := nI (xs.length + 1)) (nI_add _ _) ?_
  refine tw_putI (k := 8) C dX11_add_21 fc_X11 sh_114 (hM 114 (by decide) (by decide)) rfl (by decide) rfl wd_390 rfl rfl ?_
  exact tw_return (v := ()) C Q dX11_add_24 rfl rfl ⟨_, MU_push _ _ _ _ _ _, LA_push hf⟩
