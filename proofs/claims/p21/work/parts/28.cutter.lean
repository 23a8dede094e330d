theorem UF_uA (B : tw_S) (F : Nat → Int32) (pk : List Nat) (r i : Nat) (x : Int32) : tw_uA (UF B F pk) r i x = UF (tw_uA B r i x) F pk := rfl
def tT (f : Nat → Int32) (x0 x1 x2 x3 x4 x5 x6 x7 : Int32) : Nat → Int32 := upd (upd (upd (upd (upd (upd (upd (upd f 0 x0) 1 x1) 2 x2) 3 x3) 4 x4) 5 x5) 6 x6) 7 x7
theorem tw_uA_wA (S : tw_S) (r k : Nat) (x : Int32) : tw_uA S r k x = tw_wA S r (upd (tw_A S r) k x) := by
  simp only [tw_uA, tw_wA, Prod.mk.injEq, true_and, and_true]
  funext q j
  by_cases h : q = r
  · subst h
    by_cases h2 : j = k <;> simp [h2, upd, tw_A]
  · simp [h]
theorem tw_wA_wA (S : tw_S) (r : Nat) (f g : Nat → Int32) : tw_wA (tw_wA S r f) r g = tw_wA S r g := by
  simp only [tw_wA, Prod.mk.injEq, true_and, and_true]
  funext q j
  by_cases h : q = r <;> simp [h]
theorem tq_wA_same (S : tw_S) (r : Nat) (f : Nat → Int32) : tw_A (tw_wA S r f) r = f := by
  funext j; simp [tw_A, tw_wA]
theorem tT_eq (S : tw_S) (x0 x1 x2 x3 x4 x5 x6 x7 : Int32) : tw_uA (tw_uA (tw_uA (tw_uA (tw_uA (tw_uA (tw_uA (tw_uA S 21 0 x0) 21 1 x1) 21 2 x2) 21 3 x3) 21 4 x4) 21 5 x5) 21 6 x6) 21 7 x7 = tw_wA S 21 (tT (tw_A S 21) x0 x1 x2 x3 x4 x5 x6 x7) := by
  simp only [tw_uA_wA, tw_wA_wA, tq_wA_same, tT]
def FRM (S : tw_S) (fr : List (List Nat)) : Prop := fr.length ≤ 40 ∧ tw_I S 12 1 = nI fr.length ∧ ∀ k, k < fr.length → tw_R S (34 + 2 * k) = fr.getD k []
theorem FRM_uR {S : tw_S} {fr : List (List Nat)} {r : Nat} {x : List Nat} (hr : r < 34) (h : FRM S fr) : FRM (tw_uR S r x) fr := ⟨h.1, h.2.1, fun k hk => by rw [tq_uR_ne _ _ (by omega)]; exact h.2.2 k hk⟩
theorem FRM_clear (S : tw_S) : FRM (tw_uI S 12 1 (nI 0)) [] := ⟨by simp, rfl, fun k hk => by simp at hk⟩
theorem FRM_push {S : tw_S} {fr : List (List Nat)} {x : List Nat} (h : FRM S fr) (hl : fr.length < 40) : FRM (tw_uI (tw_uR S (34 + 2 * fr.length) x) 12 1 (nI (fr.length + 1))) (fr ++ [x]) := by
  refine ⟨by simp; omega, by simp [tw_I, tw_uI], fun k hk => ?_⟩
  have e : tw_R (tw_uI (tw_uR S (34 + 2 * fr.length) x) 12 1 (nI (fr.length + 1))) (34 + 2 * k) = tw_R (tw_uR S (34 + 2 * fr.length) x) (34 + 2 * k) := rfl
  rw [e]
  by_cases hkl : k < fr.length
  · rw [tq_uR_ne _ _ (by omega), h.2.2 k hkl]
    simp [List.getD_eq_getElem?_getD, List.getElem?_append_left hkl]
  · have : k = fr.length := by simp at hk; omega
    subst this
    rw [tq_uR_same]
    simp [List.getD_eq_getElem?_getD]
theorem FRM_set {S : tw_S} {fr : List (List Nat)} {x : List Nat} {k : Nat} (h : FRM S fr) (hl : k < fr.length) : FRM (tw_uR S (34 + 2 * k) x) (fr.set k x) := by
  refine ⟨by simp; exact h.1, by rw [List.length_set]; exact h.2.1, fun j hj => ?_⟩
  rw [List.length_set] at hj
  by_cases hjk : j = k
  · subst hjk
    rw [tq_uR_same]
    simp [List.getD_eq_getElem?_getD, List.getElem?_set_self hj]
  · rw [tq_uR_ne _ _ (by omega), h.2.2 j hj]
    simp [List.getD_eq_getElem?_getD, List.getElem?_set_ne (Ne.symm hjk)]
theorem c_X1_size {G : tw_G} (hG : tw_cG G) {S : tw_S} {fr : List (List Nat)} (hF : FRM S fr) : tw_M G yX1_size cX1_size 1 (some .int) 0 0 [.ref (tw_ad G 12)] S ri_I (fun v S' => v = nI fr.length ∧ S = S') := by
  refine tw_M.of (L := [(0, .ref (tw_ad G 12))]) (by decide) (Nat.le_of_ble_eq_true rfl) rfl (fun X C N Q => ?_)
  have C : tw_C G X cX1_size RX1 := C
  refine tw_aload_n C dX1_size_0 0 rfl ?_
  refine tw_getI (v := nI fr.length) (k := 1) C dX1_size_1 fc_X1 sh_12 (hG 12 (by decide)) rfl (by decide) wd_79 hF.2.1 ?_
  exact tw_ireturn C Q dX1_size_4 rfl rfl rfl ⟨rfl, rfl⟩
theorem c_X1_has {G : tw_G} (hG : tw_cG G) {S : tw_S} {fr : List (List Nat)} (hF : FRM S fr) {i : Nat} (hi : i < 2 ^ 32) : tw_M G yX1_has cX1_has 2 (some .boolean) 0 0 [.ref (tw_ad G 12), .int (nI i)] S ri_I (fun v S' => v = bI (decide (i < fr.length)) ∧ S = S') := by
  refine tw_M.of (L := [(0, .ref (tw_ad G 12)), (1, .int (nI i))]) (by decide) (Nat.le_of_ble_eq_true rfl) rfl (fun X C N Q => ?_)
  have C : tw_C G X cX1_has RX1 := C
  have hfl := hF.1
  rcases Nat.lt_or_ge i (2 ^ 31) with hi1 | hi1
  · skip
    refine tw_iload_n C dX1_has_0 1 rfl ?_
    refine tn_if_lt C dX1_has_1 (tgt := 16) (by decide) (by omega) (fun c1 => ?_) (fun c1 => ?_)
    · exact absurd c1 id
    refine tw_iload_n C dX1_has_4 1 rfl ?_
    refine tw_aload_n C dX1_has_5 0 rfl ?_
    refine tw_getI (v := nI fr.length) (k := 1) C dX1_has_6 fc_X1 sh_12 (hG 12 (by decide)) rfl (by decide) wd_79 hF.2.1 ?_
    refine tn_icmp_ge C dX1_has_9 (tgt := 16) (by decide) (by omega) (by omega) (fun c2 => ?_) (fun c2 => ?_)
    · skip
      refine tw_iconst C dX1_has_16 (v := nI 0) (by decide) ?_
      exact tw_ireturn C Q dX1_has_17 rfl rfl rfl ⟨bI_of_f (by omega), rfl⟩
    · skip
      refine tw_iconst C dX1_has_12 (v := nI 1) (by decide) ?_
      refine tw_goto C dX1_has_13 (tgt := 17) (by decide) ?_
      exact tw_ireturn C Q dX1_has_17 rfl rfl rfl ⟨bI_of_t (by omega), rfl⟩
  · have hneg := nI_neg hi1 hi
    refine tw_iload_n C dX1_has_0 1 rfl ?_
    refine tw_if_lt C dX1_has_1 (tgt := 16) (by decide) (fun c1 => ?_) (fun c1 => ?_)
    · skip
      refine tw_iconst C dX1_has_16 (v := nI 0) (by decide) ?_
      exact tw_ireturn C Q dX1_has_17 rfl rfl rfl ⟨bI_of_f (by omega), rfl⟩
    · exact absurd hneg c1
theorem c_X1_at {G : tw_G} (hG : tw_cG G) {S : tw_S} {i : Nat} (hi : i < 40) : tw_M G yX1_at cX1_at 2 (some (.object "ShortFrames$Row")) 0 0 [.ref (tw_ad G 12), .int (nI i)] S (ri_A G) (fun v S' => v = 34 + 2 * i ∧ S = S') := by
  refine tw_M.of (L := [(0, .ref (tw_ad G 12)), (1, .int (nI i))]) (by decide) (Nat.le_of_ble_eq_true rfl) rfl (fun X C N Q => ?_)
  have C : tw_C G X cX1_at RX1 := C
  refine tw_aload_n C dX1_at_0 0 rfl ?_
  refine tw_getR (q := 13) (k := 0) C dX1_at_1 fc_X1 sh_12 (hG 12 (by decide)) rfl (by decide) wd_78 ?_
  refine tw_iload_n C dX1_at_4 1 rfl ?_
  refine tn_if_lt C dX1_at_5 (tgt := 18) (by decide) (by omega) (fun c1 => ?_) (fun c1 => ?_)
  · exact absurd c1 id
  refine tw_iload_n C dX1_at_8 1 rfl ?_
  refine tw_bipush C dX1_at_9 (v := nI 40) (by decide) ?_
  refine tn_icmp_ge C dX1_at_11 (tgt := 18) (by decide) (by omega) (by omega) (fun c2 => ?_) (fun c2 => ?_)
  · exact absurd c2 (by omega)
  refine tw_iload_n C dX1_at_14 1 rfl ?_
  refine tw_goto C dX1_at_15 (tgt := 19) (by decide) ?_
  refine tw_aald4 C dX1_at_19 sn_13 sa_13 (hG 13 (by decide)) (by omega) (by decide) ?_
  exact tw_areturn C Q dX1_at_20 rfl rfl ⟨rfl, rfl⟩
theorem c_X1_clear {G : tw_G} (hG : tw_cG G) {S : tw_S} : tw_M G yX1_clear cX1_clear 1 none 0 0 [.ref (tw_ad G 12)] S ri_V (fun _ S' => S' = tw_uI S 12 1 (nI 0)) := by
  refine tw_M.of (L := [(0, .ref (tw_ad G 12))]) (by decide) (Nat.le_of_ble_eq_true rfl) rfl (fun X C N Q => ?_)
  have C : tw_C G X cX1_clear RX1 := C
  refine tw_aload_n C dX1_clear_0 0 rfl ?_
  refine tw_iconst C dX1_clear_1 (v := nI 0) (by decide) ?_
  refine tw_putI (k := 1) C dX1_clear_2 fc_X1 sh_12 (hG 12 (by decide)) rfl (by decide) rfl wd_79 rfl rfl ?_
  exact tw_return (v := ()) C Q dX1_clear_5 rfl rfl rfl
theorem c_X1_store0 {G : tw_G} (hG : tw_cG G) {S : tw_S} {fr : List (List Nat)} (hF : FRM S fr) {q : Nat} (hq : tw_isRow q = true) (hq34 : q < 34) {ys : List Nat} (hy : tw_R S q = ys) (hk : fr.length < 40) : tw_M G yX1_store cX1_store 3 (some .boolean) 3 66 [.ref (tw_ad G 12), .int (nI fr.length), .ref (tw_ad G q)] S ri_I (fun v S' => v = bI true ∧ S' = tw_uI (tw_uR S (34 + 2 * fr.length) (ys.take 120)) 12 1 (nI (fr.length + 1))) := by
  refine tw_M.of (L := [(0, .ref (tw_ad G 12)), (1, .int (nI fr.length)), (2, .ref (tw_ad G q))]) (by decide) (Nat.le_of_ble_eq_true rfl) rfl (fun X C N Q => ?_)
  have C : tw_C G X cX1_store RX1 := C
  have hfl := hF.1
  refine tw_iload_n C dX1_store_0 1 rfl ?_
  refine tn_if_lt C dX1_store_1 (tgt := 18) (by decide) (by omega) (fun c1 => ?_) (fun c1 => ?_)
  · exact absurd c1 id
  refine tw_iload_n C dX1_store_4 1 rfl ?_
  refine tw_aload_n C dX1_store_5 0 rfl ?_
  refine tw_getI (v := nI fr.length) (k := 1) C dX1_store_6 fc_X1 sh_12 (hG 12 (by decide)) rfl (by decide) wd_79 hF.2.1 ?_
  refine tn_icmp_gt C dX1_store_9 (tgt := 18) (by decide) (by omega) (by omega) (fun c2 => ?_) (fun c2 => ?_)
  · exact absurd c2 (by omega)
  refine tw_iload_n C dX1_store_12 1 rfl ?_
  refine tw_bipush C dX1_store_13 (v := nI 40) (by decide) ?_
  refine tn_icmp_lt C dX1_store_15 (tgt := 20) (by decide) (by omega) (by omega) (fun c3 => ?_) (fun c3 => ?_)
  · skip
    refine tw_aload_n C dX1_store_20 0 rfl ?_
    refine tw_getR (q := 13) (k := 0) C dX1_store_21 fc_X1 sh_12 (hG 12 (by decide)) rfl (by decide) wd_78 ?_
    refine tw_iload_n C dX1_store_24 1 rfl ?_
    refine tw_aald4 C dX1_store_25 sn_13 sa_13 (hG 13 (by decide)) (by omega) (by decide) ?_
    refine tw_aload_n C dX1_store_26 2 rfl ?_
    refine tw_callV (As := [.ref (tw_ad G q)]) (rest := []) C N (e_X7_become hG (S := S) (tw_rowF (k := fr.length) (by omega)) hq (by omega) (ys := ys) hy) mm_X7_become wd_310 rfl (hG _ (tw_row_lt (tw_rowF (k := fr.length) (by omega))).2) (tw_row_sh (tw_rowF (k := fr.length) (by omega))) rfl (by decide) rfl (Nat.le_of_ble_eq_true rfl) dX1_store_27 ?_
    rintro _ _ rfl
    show TW G X (tw_uR S (34 + 2 * fr.length) (ys.take (tw_cap (34 + 2 * fr.length)))) [(0, .ref (tw_ad G 12)), (1, .int (nI fr.length)), (2, .ref (tw_ad G q))] 30 []
    refine tw_iload_n C dX1_store_30 1 rfl ?_
    refine tw_aload_n C dX1_store_31 0 rfl ?_
    refine tw_getI (v := nI fr.length) (k := 1) C dX1_store_32 fc_X1 sh_12 (hG 12 (by decide)) rfl (by decide) wd_79 hF.2.1 ?_
    refine tn_icmp_ne C dX1_store_35 (tgt := 48) (by decide) (by omega) (by omega) (fun c9 => ?_) (fun c9 => ?_)
    · exact absurd rfl c9
    refine tw_aload_n C dX1_store_38 0 rfl ?_
    refine tw_dup C dX1_store_39 rfl ?_
    refine tw_getI (v := nI fr.length) (k := 1) C dX1_store_40 fc_X1 sh_12 (hG 12 (by decide)) rfl (by decide) wd_79 hF.2.1 ?_
    refine tw_iconst C dX1_store_43 (v := nI 1) (by decide) ?_
    refine tw_iadd C dX1_store_44 (v := nI (fr.length + 1)) (nI_add _ _) ?_
    refine tw_putI (k := 1) C dX1_store_45 fc_X1 sh_12 (hG 12 (by decide)) rfl (by decide) rfl wd_79 rfl rfl ?_
    refine tw_iconst C dX1_store_48 (v := nI 1) (by decide) ?_
    exact tw_ireturn C Q dX1_store_49 rfl rfl rfl ⟨rfl, by rw [tw_capF (by omega)]⟩
  · exact absurd c3 (by omega)
theorem c_X1_store1 {G : tw_G} (hG : tw_cG G) {S : tw_S} {fr : List (List Nat)} (hF : FRM S fr) {q : Nat} (hq : tw_isRow q = true) (hq34 : q < 34) {ys : List Nat} (hy : tw_R S q = ys) {k : Nat} (hk : k < fr.length) : tw_M G yX1_store cX1_store 3 (some .boolean) 3 66 [.ref (tw_ad G 12), .int (nI k), .ref (tw_ad G q)] S ri_I (fun v S' => v = bI true ∧ S' = tw_uR S (34 + 2 * k) (ys.take 120)) := by
  refine tw_M.of (L := [(0, .ref (tw_ad G 12)), (1, .int (nI k)), (2, .ref (tw_ad G q))]) (by decide) (Nat.le_of_ble_eq_true rfl) rfl (fun X C N Q => ?_)
  have C : tw_C G X cX1_store RX1 := C
  have hfl := hF.1
  refine tw_iload_n C dX1_store_0 1 rfl ?_
  refine tn_if_lt C dX1_store_1 (tgt := 18) (by decide) (by omega) (fun c1 => ?_) (fun c1 => ?_)
  · exact absurd c1 id
  refine tw_iload_n C dX1_store_4 1 rfl ?_
  refine tw_aload_n C dX1_store_5 0 rfl ?_
  refine tw_getI (v := nI fr.length) (k := 1) C dX1_store_6 fc_X1 sh_12 (hG 12 (by decide)) rfl (by decide) wd_79 hF.2.1 ?_
  refine tn_icmp_gt C dX1_store_9 (tgt := 18) (by decide) (by omega) (by omega) (fun c2 => ?_) (fun c2 => ?_)
  · exact absurd c2 (by omega)
  refine tw_iload_n C dX1_store_12 1 rfl ?_
  refine tw_bipush C dX1_store_13 (v := nI 40) (by decide) ?_
  refine tn_icmp_lt C dX1_store_15 (tgt := 20) (by decide) (by omega) (by omega) (fun c3 => ?_) (fun c3 => ?_)
  · skip
    refine tw_aload_n C dX1_store_20 0 rfl ?_
    refine tw_getR (q := 13) (k := 0) C dX1_store_21 fc_X1 sh_12 (hG 12 (by decide)) rfl (by decide) wd_78 ?_
    refine tw_iload_n C dX1_store_24 1 rfl ?_
    refine tw_aald4 C dX1_store_25 sn_13 sa_13 (hG 13 (by decide)) (by omega) (by decide) ?_
    refine tw_aload_n C dX1_store_26 2 rfl ?_
    refine tw_callV (As := [.ref (tw_ad G q)]) (rest := []) C N (e_X7_become hG (S := S) (tw_rowF (k := k) (by omega)) hq (by omega) (ys := ys) hy) mm_X7_become wd_310 rfl (hG _ (tw_row_lt (tw_rowF (k := k) (by omega))).2) (tw_row_sh (tw_rowF (k := k) (by omega))) rfl (by decide) rfl (Nat.le_of_ble_eq_true rfl) dX1_store_27 ?_
    rintro _ _ rfl
    show TW G X (tw_uR S (34 + 2 * k) (ys.take (tw_cap (34 + 2 * k)))) [(0, .ref (tw_ad G 12)), (1, .int (nI k)), (2, .ref (tw_ad G q))] 30 []
    refine tw_iload_n C dX1_store_30 1 rfl ?_
    refine tw_aload_n C dX1_store_31 0 rfl ?_
    refine tw_getI (v := nI fr.length) (k := 1) C dX1_store_32 fc_X1 sh_12 (hG 12 (by decide)) rfl (by decide) wd_79 hF.2.1 ?_
    refine tn_icmp_ne C dX1_store_35 (tgt := 48) (by decide) (by omega) (by omega) (fun c5 => ?_) (fun c5 => ?_)
    · skip
      refine tw_iconst C dX1_store_48 (v := nI 1) (by decide) ?_
      exact tw_ireturn C Q dX1_store_49 rfl rfl rfl ⟨rfl, by rw [tw_capF (by omega)]⟩
    · exact absurd c5 (by omega)
  · exact absurd c3 (by omega)
theorem c_X1_store2 {G : tw_G} (hG : tw_cG G) {S : tw_S} {fr : List (List Nat)} (hF : FRM S fr) {q : Nat} (hq : tw_isRow q = true) (hq34 : q < 34) {ys : List Nat} (hy : tw_R S q = ys) {k : Nat} (hk : 40 ≤ k) (hk2 : k < 2 ^ 31) : tw_M G yX1_store cX1_store 3 (some .boolean) 3 66 [.ref (tw_ad G 12), .int (nI k), .ref (tw_ad G q)] S ri_I (fun v S' => v = bI false ∧ S = S') := by
  refine tw_M.of (L := [(0, .ref (tw_ad G 12)), (1, .int (nI k)), (2, .ref (tw_ad G q))]) (by decide) (Nat.le_of_ble_eq_true rfl) rfl (fun X C N Q => ?_)
  have C : tw_C G X cX1_store RX1 := C
  have hfl := hF.1
  refine tw_iload_n C dX1_store_0 1 rfl ?_
  refine tn_if_lt C dX1_store_1 (tgt := 18) (by decide) (by omega) (fun c1 => ?_) (fun c1 => ?_)
  · exact absurd c1 id
  refine tw_iload_n C dX1_store_4 1 rfl ?_
  refine tw_aload_n C dX1_store_5 0 rfl ?_
  refine tw_getI (v := nI fr.length) (k := 1) C dX1_store_6 fc_X1 sh_12 (hG 12 (by decide)) rfl (by decide) wd_79 hF.2.1 ?_
  refine tn_icmp_gt C dX1_store_9 (tgt := 18) (by decide) (by omega) (by omega) (fun c2 => ?_) (fun c2 => ?_)
  · skip
    refine tw_iconst C dX1_store_18 (v := nI 0) (by decide) ?_
    exact tw_ireturn C Q dX1_store_19 rfl rfl rfl ⟨rfl, rfl⟩
  · skip
    refine tw_iload_n C dX1_store_12 1 rfl ?_
    refine tw_bipush C dX1_store_13 (v := nI 40) (by decide) ?_
    refine tn_icmp_lt C dX1_store_15 (tgt := 20) (by decide) (by omega) (by omega) (fun c3 => ?_) (fun c3 => ?_)
    · exact absurd c3 (by omega)
    refine tw_iconst C dX1_store_18 (v := nI 0) (by decide) ?_
    exact tw_ireturn C Q dX1_store_19 rfl rfl rfl ⟨rfl, rfl⟩
theorem mark_or {m z : Nat} (hz : z < 2048) : m * 2048 ||| z = m * 2048 + z := by
  have := Nat.two_pow_add_eq_or_of_lt (i := 11) (b := z) hz m
  simp only [Nat.reducePow] at this
  rw [Nat.mul_comm m 2048, this]
theorem c_X0_begin0 {G : tw_G} (hG : tw_cG G) {S : tw_S} {z tag : Nat} (hz : z < 2048) (ht : tag < 65536) : tw_M G yX0_begin cX0_begin 4 none 2 45 [.ref (tw_ad G 14), .int (nI 192), .int (nI z), .int (nI tag)] S ri_V (fun _ S' => S' = tw_uR S 17 (be (49152 + z) 2 ++ be tag 2)) := by
  refine tw_M.of (L := [(0, .ref (tw_ad G 14)), (1, .int (nI 192)), (2, .int (nI z)), (3, .int (nI tag))]) (by decide) (Nat.le_of_ble_eq_true rfl) rfl (fun X C N Q => ?_)
  have C : tw_C G X cX0_begin RX0 := C
  refine tw_aload_n C dX0_begin_0 0 rfl ?_
  refine tw_getR (q := 17) (k := 2) C dX0_begin_1 fc_X0 sh_14 (hG 14 (by decide)) rfl (by decide) wd_87 ?_
  refine tw_iconst C dX0_begin_4 (v := nI 0) (by decide) ?_
  refine tw_callV (As := [.int (nI 0)]) (rest := []) C N (e_X7_shorten hG (S := S) tw_row17 (xs := tw_R S 17) rfl (i := 0) (by omega)) mm_X7_shorten wd_324 rfl (hG 17 (by decide)) sh_17 rfl (by decide) rfl (Nat.le_of_ble_eq_true rfl) dX0_begin_5 ?_
  rintro _ _ rfl
  show TW G X (tw_uR S 17 ((tw_R S 17).take 0)) [(0, .ref (tw_ad G 14)), (1, .int (nI 192)), (2, .int (nI z)), (3, .int (nI tag))] 8 []
  refine TW.sS (S' := tw_uR S 17 ((([] : List Nat)).take (tw_cap 17))) (by simp) ?_
  refine tw_aload_n C dX0_begin_8 0 rfl ?_
  refine tw_getR (q := 17) (k := 2) C dX0_begin_9 fc_X0 sh_14 (hG 14 (by decide)) rfl (by decide) wd_87 ?_
  refine tw_iload_n C dX0_begin_12 1 rfl ?_
  refine tw_i2l C dX0_begin_13 (v := lN 192) (nI_i64 (by omega)) ?_
  refine tw_bipush C dX0_begin_14 (v := nI 8) (by decide) ?_
  refine tw_lshl C dX0_begin_16 (v := lN (192 * 256)) (lN_shl _ 8 (by decide)) ?_
  refine tw_iload_n C dX0_begin_17 2 rfl ?_
  refine tw_i2l C dX0_begin_18 (v := lN z) (nI_i64 (by omega)) ?_
  refine tw_lor C dX0_begin_19 (v := lN (49152 + z)) (by rw [lN_or, show 192 * 256 = 24 * 2048 by rfl, mark_or hz]) ?_
  refine tw_iconst C dX0_begin_20 (v := nI 2) (by decide) ?_
  refine tw_callV (As := [.long (lN (49152 + z)), .int (nI 2)]) (rest := []) C N (e_X7_addNumber hG (S := tw_uR S 17 ((([] : List Nat)).take (tw_cap 17))) tw_row17 (xs := (([] : List Nat)).take (tw_cap 17)) rfl (v := 49152 + z) (i := 2) (by omega) (by omega)) mm_X7_addNumber wd_325 rfl (hG 17 (by decide)) sh_17 rfl (by decide) rfl (Nat.le_of_ble_eq_true rfl) dX0_begin_21 ?_
  rintro _ _ rfl
  show TW G X (tw_uR (tw_uR S 17 ((([] : List Nat)).take (tw_cap 17))) 17 ((((([] : List Nat)).take (tw_cap 17)) ++ be (49152 + z) 2).take (tw_cap 17))) [(0, .ref (tw_ad G 14)), (1, .int (nI 192)), (2, .int (nI z)), (3, .int (nI tag))] 24 []
  refine TW.sS (S' := tw_uR S 17 ((([] : List Nat) ++ be (49152 + z) 2).take (tw_cap 17))) (by rw [tw_uR_uR, tk_tk]) ?_
  refine tw_aload_n C dX0_begin_24 0 rfl ?_
  refine tw_getR (q := 17) (k := 2) C dX0_begin_25 fc_X0 sh_14 (hG 14 (by decide)) rfl (by decide) wd_87 ?_
  refine tw_iload_n C dX0_begin_28 3 rfl ?_
  refine tw_i2l C dX0_begin_29 (v := lN tag) (nI_i64 (by omega)) ?_
  refine tw_iconst C dX0_begin_30 (v := nI 2) (by decide) ?_
  refine tw_callV (As := [.long (lN tag), .int (nI 2)]) (rest := []) C N (e_X7_addNumber hG (S := tw_uR S 17 ((([] : List Nat) ++ be (49152 + z) 2).take (tw_cap 17))) tw_row17 (xs := (([] : List Nat) ++ be (49152 + z) 2).take (tw_cap 17)) rfl (v := tag) (i := 2) (by omega) (by omega)) mm_X7_addNumber wd_325 rfl (hG 17 (by decide)) sh_17 rfl (by decide) rfl (Nat.le_of_ble_eq_true rfl) dX0_begin_31 ?_
  rintro _ _ rfl
  show TW G X (tw_uR (tw_uR S 17 ((([] : List Nat) ++ be (49152 + z) 2).take (tw_cap 17))) 17 ((((([] : List Nat) ++ be (49152 + z) 2).take (tw_cap 17)) ++ be tag 2).take (tw_cap 17))) [(0, .ref (tw_ad G 14)), (1, .int (nI 192)), (2, .int (nI z)), (3, .int (nI tag))] 34 []
  refine TW.sS (S' := tw_uR S 17 ((([] : List Nat) ++ be (49152 + z) 2 ++ be tag 2).take (tw_cap 17))) (by rw [tw_uR_uR, tk_tk]) ?_
  exact tw_return (v := ()) C Q dX0_begin_34 rfl rfl (by rw [List.take_of_length_le (by simp [be_len]; decide)]; rfl)
theorem c_X0_begin1 {G : tw_G} (hG : tw_cG G) {S : tw_S} {z tag : Nat} (hz : z < 2048) (ht : tag < 65536) : tw_M G yX0_begin cX0_begin 4 none 2 45 [.ref (tw_ad G 14), .int (nI 224), .int (nI z), .int (nI tag)] S ri_V (fun _ S' => S' = tw_uR S 17 (be (57344 + z) 2 ++ be tag 2)) := by
  refine tw_M.of (L := [(0, .ref (tw_ad G 14)), (1, .int (nI 224)), (2, .int (nI z)), (3, .int (nI tag))]) (by decide) (Nat.le_of_ble_eq_true rfl) rfl (fun X C N Q => ?_)
  have C : tw_C G X cX0_begin RX0 := C
  refine tw_aload_n C dX0_begin_0 0 rfl ?_
  refine tw_getR (q := 17) (k := 2) C dX0_begin_1 fc_X0 sh_14 (hG 14 (by decide)) rfl (by decide) wd_87 ?_
  refine tw_iconst C dX0_begin_4 (v := nI 0) (by decide) ?_
  refine tw_callV (As := [.int (nI 0)]) (rest := []) C N (e_X7_shorten hG (S := S) tw_row17 (xs := tw_R S 17) rfl (i := 0) (by omega)) mm_X7_shorten wd_324 rfl (hG 17 (by decide)) sh_17 rfl (by decide) rfl (Nat.le_of_ble_eq_true rfl) dX0_begin_5 ?_
  rintro _ _ rfl
  show TW G X (tw_uR S 17 ((tw_R S 17).take 0)) [(0, .ref (tw_ad G 14)), (1, .int (nI 224)), (2, .int (nI z)), (3, .int (nI tag))] 8 []
  refine TW.sS (S' := tw_uR S 17 ((([] : List Nat)).take (tw_cap 17))) (by simp) ?_
  refine tw_aload_n C dX0_begin_8 0 rfl ?_
  refine tw_getR (q := 17) (k := 2) C dX0_begin_9 fc_X0 sh_14 (hG 14 (by decide)) rfl (by decide) wd_87 ?_
  refine tw_iload_n C dX0_begin_12 1 rfl ?_
  refine tw_i2l C dX0_begin_13 (v := lN 224) (nI_i64 (by omega)) ?_
  refine tw_bipush C dX0_begin_14 (v := nI 8) (by decide) ?_
  refine tw_lshl C dX0_begin_16 (v := lN (224 * 256)) (lN_shl _ 8 (by decide)) ?_
  refine tw_iload_n C dX0_begin_17 2 rfl ?_
  refine tw_i2l C dX0_begin_18 (v := lN z) (nI_i64 (by omega)) ?_
  refine tw_lor C dX0_begin_19 (v := lN (57344 + z)) (by rw [lN_or, show 224 * 256 = 28 * 2048 by rfl, mark_or hz]) ?_
  refine tw_iconst C dX0_begin_20 (v := nI 2) (by decide) ?_
  refine tw_callV (As := [.long (lN (57344 + z)), .int (nI 2)]) (rest := []) C N (e_X7_addNumber hG (S := tw_uR S 17 ((([] : List Nat)).take (tw_cap 17))) tw_row17 (xs := (([] : List Nat)).take (tw_cap 17)) rfl (v := 57344 + z) (i := 2) (by omega) (by omega)) mm_X7_addNumber wd_325 rfl (hG 17 (by decide)) sh_17 rfl (by decide) rfl (Nat.le_of_ble_eq_true rfl) dX0_begin_21 ?_
  rintro _ _ rfl
  show TW G X (tw_uR (tw_uR S 17 ((([] : List Nat)).take (tw_cap 17))) 17 ((((([] : List Nat)).take (tw_cap 17)) ++ be (57344 + z) 2).take (tw_cap 17))) [(0, .ref (tw_ad G 14)), (1, .int (nI 224)), (2, .int (nI z)), (3, .int (nI tag))] 24 []
  refine TW.sS (S' := tw_uR S 17 ((([] : List Nat) ++ be (57344 + z) 2).take (tw_cap 17))) (by rw [tw_uR_uR, tk_tk]) ?_
  refine tw_aload_n C dX0_begin_24 0 rfl ?_
  refine tw_getR (q := 17) (k := 2) C dX0_begin_25 fc_X0 sh_14 (hG 14 (by decide)) rfl (by decide) wd_87 ?_
  refine tw_iload_n C dX0_begin_28 3 rfl ?_
  refine tw_i2l C dX0_begin_29 (v := lN tag) (nI_i64 (by omega)) ?_
  refine tw_iconst C dX0_begin_30 (v := nI 2) (by decide) ?_
  refine tw_callV (As := [.long (lN tag), .int (nI 2)]) (rest := []) C N (e_X7_addNumber hG (S := tw_uR S 17 ((([] : List Nat) ++ be (57344 + z) 2).take (tw_cap 17))) tw_row17 (xs := (([] : List Nat) ++ be (57344 + z) 2).take (tw_cap 17)) rfl (v := tag) (i := 2) (by omega) (by omega)) mm_X7_addNumber wd_325 rfl (hG 17 (by decide)) sh_17 rfl (by decide) rfl (Nat.le_of_ble_eq_true rfl) dX0_begin_31 ?_
  rintro _ _ rfl
  show TW G X (tw_uR (tw_uR S 17 ((([] : List Nat) ++ be (57344 + z) 2).take (tw_cap 17))) 17 ((((([] : List Nat) ++ be (57344 + z) 2).take (tw_cap 17)) ++ be tag 2).take (tw_cap 17))) [(0, .ref (tw_ad G 14)), (1, .int (nI 224)), (2, .int (nI z)), (3, .int (nI tag))] 34 []
  refine TW.sS (S' := tw_uR S 17 ((([] : List Nat) ++ be (57344 + z) 2 ++ be tag 2).take (tw_cap 17))) (by rw [tw_uR_uR, tk_tk]) ?_
  exact tw_return (v := ()) C Q dX0_begin_34 rfl rfl (by rw [List.take_of_length_le (by simp [be_len]; decide)]; rfl)
