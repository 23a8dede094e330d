theorem c_X3_isThere {G : tw_G} (hG : tw_cG G) {S : tw_S} {K : kN} (hK : KN S K) {i : Nat} (hi : i < 2 ^ 31) : tw_M G yX3_isThere cX3_isThere 2 (some .boolean) 0 0 [.ref (tw_ad G 5), .int (nI i)] S ri_I (fun v S' => v = bI (decide (i < 16) && kT K i) ∧ S = S') := by
  refine tw_M.of (L := [(0, .ref (tw_ad G 5)), (1, .int (nI i))]) (by decide) (Nat.le_of_ble_eq_true rfl) rfl (fun X C N Q => ?_)
  have C : tw_C G X cX3_isThere RX3 := C
  refine tw_iload_n C dX3_isThere_0 1 rfl ?_
  refine tn_if_lt C dX3_isThere_1 (tgt := 23) (by decide) (by omega) (fun c1 => ?_) (fun c1 => ?_)
  · exact absurd c1 id
  refine tw_iload_n C dX3_isThere_4 1 rfl ?_
  refine tw_bipush C dX3_isThere_5 (v := nI 16) (by decide) ?_
  refine tn_icmp_ge C dX3_isThere_7 (tgt := 23) (by decide) (by omega) (by omega) (fun c2 => ?_) (fun c2 => ?_)
  · skip
    refine tw_iconst C dX3_isThere_23 (v := nI 0) (by decide) ?_
    exact tw_ireturn C Q dX3_isThere_24 rfl rfl rfl ⟨(by rw [bI_n, if_neg (by simp [*]; try omega)]), rfl⟩
  · skip
    refine tw_aload_n C dX3_isThere_10 0 rfl ?_
    refine tw_getR (q := 6) (k := 0) C dX3_isThere_11 fc_X3 sh_5 (hG 5 (by decide)) rfl (by decide) wd_48 ?_
    refine tw_iload_n C dX3_isThere_14 1 rfl ?_
    refine tw_zald (v := bI (kT K i)) C dX3_isThere_15 sn_6 sa_6 (hG 6 (by decide)) (by omega) (by decide) (hK.1 _ (by omega)) ?_
    refine tb_if_eq C dX3_isThere_16 (tgt := 23) (by decide) (fun c3 => ?_) (fun c3 => ?_)
    · skip
      refine tw_iconst C dX3_isThere_23 (v := nI 0) (by decide) ?_
      exact tw_ireturn C Q dX3_isThere_24 rfl rfl rfl ⟨(by rw [bI_n, if_neg (by simp [*]; try omega)]), rfl⟩
    · skip
      refine tw_iconst C dX3_isThere_19 (v := nI 1) (by decide) ?_
      refine tw_goto C dX3_isThere_20 (tgt := 24) (by decide) ?_
      exact tw_ireturn C Q dX3_isThere_24 rfl rfl rfl ⟨(by rw [bI_n, if_pos (by simp [*]; omega)]), rfl⟩
theorem c_X3_contextOf {G : tw_G} (hG : tw_cG G) {S : tw_S} {K : kN} (hK : KN S K) {i : Nat} (hi : i < 2 ^ 31) : tw_M G yX3_contextOf cX3_contextOf 2 (some .long) 1 21 [.ref (tw_ad G 5), .int (nI i)] S ri_J (fun v S' => v = lN (if i < 16 ∧ kT K i = true then kV K i else 0) ∧ S = S') := by
  refine tw_M.of (L := [(0, .ref (tw_ad G 5)), (1, .int (nI i))]) (by decide) (Nat.le_of_ble_eq_true rfl) rfl (fun X C N Q => ?_)
  have C : tw_C G X cX3_contextOf RX3 := C
  refine tw_aload_n C dX3_contextOf_0 0 rfl ?_
  refine tw_iload_n C dX3_contextOf_1 1 rfl ?_
  refine tw_callV (As := [.int (nI i)]) (rest := []) C N (c_X3_isThere hG (S := S) hK (i := i) (by omega)) mm_X3_isThere wd_452 rfl (hG 5 (by decide)) sh_5 rfl (by decide) rfl (Nat.le_of_ble_eq_true rfl) dX3_contextOf_2 ?_
  rintro _ _ ⟨rfl, rfl⟩
  show TW G X S [(0, .ref (tw_ad G 5)), (1, .int (nI i))] 5 [.int (bI (decide (i < 16) && kT K i))]
  refine tb_if_eq C dX3_contextOf_5 (tgt := 17) (by decide) (fun c2 => ?_) (fun c2 => ?_)
  · skip
    refine tw_lconst C dX3_contextOf_17 (v := lN 0) rfl ?_
    exact tw_lreturn C Q dX3_contextOf_18 rfl rfl ⟨by rw [if_neg (by simpa using c2)], rfl⟩
  · skip
    have hi16 : i < 16 := by simp at c2; exact c2.1
    refine tw_aload_n C dX3_contextOf_8 0 rfl ?_
    refine tw_getR (q := 7) (k := 1) C dX3_contextOf_9 fc_X3 sh_5 (hG 5 (by decide)) rfl (by decide) wd_50 ?_
    refine tw_iload_n C dX3_contextOf_12 1 rfl ?_
    refine tw_lald (v := lN (kV K i)) C dX3_contextOf_13 sn_7 sa_7 (hG 7 (by decide)) (by omega) (by decide) (hK.2.1 _ (by omega)) ?_
    refine tw_goto C dX3_contextOf_14 (tgt := 18) (by decide) ?_
    exact tw_lreturn C Q dX3_contextOf_18 rfl rfl ⟨by rw [if_pos (by simpa using c2)], rfl⟩
theorem c_X3_setContext {G : tw_G} (hG : tw_cG G) {S : tw_S} {i v : Nat} {t : Bool} (hi : i < 16) : tw_M G yX3_setContext cX3_setContext 5 none 0 0 [.ref (tw_ad G 5), .int (nI i), .int (bI t), .long (lN v)] S ri_V (fun _ S' => S' = tw_uB (tw_uA S 6 i (bI t)) 7 i (lN v)) := by
  refine tw_M.of (L := [(0, .ref (tw_ad G 5)), (1, .int (nI i)), (2, .int (bI t)), (3, .long (lN v))]) (by decide) (Nat.le_of_ble_eq_true rfl) rfl (fun X C N Q => ?_)
  have C : tw_C G X cX3_setContext RX3 := C
  refine tw_iload_n C dX3_setContext_0 1 rfl ?_
  refine tn_if_lt C dX3_setContext_1 (tgt := 24) (by decide) (by omega) (fun c1 => ?_) (fun c1 => ?_)
  · exact absurd c1 id
  refine tw_iload_n C dX3_setContext_4 1 rfl ?_
  refine tw_bipush C dX3_setContext_5 (v := nI 16) (by decide) ?_
  refine tn_icmp_ge C dX3_setContext_7 (tgt := 24) (by decide) (by omega) (by omega) (fun c2 => ?_) (fun c2 => ?_)
  · exact absurd c2 (by omega)
  refine tw_aload_n C dX3_setContext_10 0 rfl ?_
  refine tw_getR (q := 6) (k := 0) C dX3_setContext_11 fc_X3 sh_5 (hG 5 (by decide)) rfl (by decide) wd_48 ?_
  refine tw_iload_n C dX3_setContext_14 1 rfl ?_
  refine tw_iload_n C dX3_setContext_15 2 rfl ?_
  refine tw_zast (y := bI t) C dX3_setContext_16 sn_6 sa_6 (hG 6 (by decide)) (by omega) (by decide) (bI_vp _) ?_
  refine tw_aload_n C dX3_setContext_17 0 rfl ?_
  refine tw_getR (q := 7) (k := 1) C dX3_setContext_18 fc_X3 sh_5 (hG 5 (by decide)) rfl (by decide) wd_50 ?_
  refine tw_iload_n C dX3_setContext_21 1 rfl ?_
  refine tw_lload_n C dX3_setContext_22 3 rfl ?_
  refine tw_last C dX3_setContext_23 sn_7 sa_7 (hG 7 (by decide)) (by omega) (by decide) ?_
  exact tw_return (v := ()) C Q dX3_setContext_24 rfl rfl rfl
theorem c_X3_setLink0 {G : tw_G} (hG : tw_cG G) {S : tw_S} {v : Nat} {t : Bool} : tw_M G yX3_setLink cX3_setLink 7 none 0 0 [.ref (tw_ad G 5), .int (nI 0), .int (bI t), .long (lN v)] S ri_V (fun _ S' => S' = tw_uJ S 5 2 (lN (if t then v ^^^ 144115188075855872 else 1099478073344 ||| v % 65536))) := by
  refine tw_M.of (L := [(0, .ref (tw_ad G 5)), (1, .int (nI 0)), (2, .int (bI t)), (3, .long (lN v))]) (by decide) (Nat.le_of_ble_eq_true rfl) rfl (fun X C N Q => ?_)
  have C : tw_C G X cX3_setLink RX3 := C
  refine tw_iload_n C dX3_setLink_0 2 rfl ?_
  refine tb_if_eq C dX3_setLink_1 (tgt := 12) (by decide) (fun c1 => ?_) (fun c1 => ?_)
  · skip
    refine tw_ldc2 C dX3_setLink_12 wd_51 (w := lN 1099478073344) (by decide) ?_
    refine tw_lload_n C dX3_setLink_15 3 rfl ?_
    refine tw_ldc2 C dX3_setLink_16 wd_128 (w := lN 65535) (by decide) ?_
    refine tw_land C dX3_setLink_19 (v := lN (v % 65536)) (lN_andm 16) ?_
    refine tw_lor C dX3_setLink_20 (v := lN (1099478073344 ||| (v % 65536))) (lN_or _ _) ?_
    refine tw_lstore (L' := [(5, .long (lN (1099478073344 ||| (v % 65536)))), (0, .ref (tw_ad G 5)), (1, .int (nI 0)), (2, .int (bI t)), (3, .long (lN v))]) C N dX3_setLink_21 (i := 5) (by decide) rfl ?_
    refine tw_iload_n C dX3_setLink_23 2 rfl ?_
    refine tn_if_ne C dX3_setLink_24 (tgt := 36) (by decide) (by decide) (fun c2 => ?_) (fun c2 => ?_)
    · exact absurd c2 (by decide)
    refine tw_aload_n C dX3_setLink_27 1 rfl ?_
    refine tw_lload C dX3_setLink_28 0 rfl ?_
    refine tw_putJ (k := 2) C dX3_setLink_30 fc_X3 sh_5 (hG 5 (by decide)) rfl (by decide) rfl wd_52 rfl rfl ?_
    refine tw_goto C dX3_setLink_33 (tgt := 42) (by decide) ?_
    exact tw_return (v := ()) C Q dX3_setLink_42 rfl rfl (by simp [c1])
  · skip
    refine tw_lload_n C dX3_setLink_4 3 rfl ?_
    refine tw_ldc2 C dX3_setLink_5 wd_127 (w := lN 144115188075855872) (by decide) ?_
    refine tw_lxor C dX3_setLink_8 (v := lN (v ^^^ 144115188075855872)) (lN_xor _ _) ?_
    refine tw_goto C dX3_setLink_9 (tgt := 21) (by decide) ?_
    refine tw_lstore (L' := [(5, .long (lN (v ^^^ 144115188075855872))), (0, .ref (tw_ad G 5)), (1, .int (nI 0)), (2, .int (bI t)), (3, .long (lN v))]) C N dX3_setLink_21 (i := 5) (by decide) rfl ?_
    refine tw_iload_n C dX3_setLink_23 2 rfl ?_
    refine tn_if_ne C dX3_setLink_24 (tgt := 36) (by decide) (by decide) (fun c2 => ?_) (fun c2 => ?_)
    · exact absurd c2 (by decide)
    refine tw_aload_n C dX3_setLink_27 1 rfl ?_
    refine tw_lload C dX3_setLink_28 0 rfl ?_
    refine tw_putJ (k := 2) C dX3_setLink_30 fc_X3 sh_5 (hG 5 (by decide)) rfl (by decide) rfl wd_52 rfl rfl ?_
    refine tw_goto C dX3_setLink_33 (tgt := 42) (by decide) ?_
    exact tw_return (v := ()) C Q dX3_setLink_42 rfl rfl (by simp [c1])
theorem c_X3_setLink1 {G : tw_G} (hG : tw_cG G) {S : tw_S} {v : Nat} {t : Bool} : tw_M G yX3_setLink cX3_setLink 7 none 0 0 [.ref (tw_ad G 5), .int (nI 1), .int (bI t), .long (lN v)] S ri_V (fun _ S' => S' = tw_uJ S 5 3 (lN (if t then v ^^^ 144115188075855872 else 1099478073344 ||| v % 65536))) := by
  refine tw_M.of (L := [(0, .ref (tw_ad G 5)), (1, .int (nI 1)), (2, .int (bI t)), (3, .long (lN v))]) (by decide) (Nat.le_of_ble_eq_true rfl) rfl (fun X C N Q => ?_)
  have C : tw_C G X cX3_setLink RX3 := C
  refine tw_iload_n C dX3_setLink_0 2 rfl ?_
  refine tb_if_eq C dX3_setLink_1 (tgt := 12) (by decide) (fun c1 => ?_) (fun c1 => ?_)
  · skip
    refine tw_ldc2 C dX3_setLink_12 wd_51 (w := lN 1099478073344) (by decide) ?_
    refine tw_lload_n C dX3_setLink_15 3 rfl ?_
    refine tw_ldc2 C dX3_setLink_16 wd_128 (w := lN 65535) (by decide) ?_
    refine tw_land C dX3_setLink_19 (v := lN (v % 65536)) (lN_andm 16) ?_
    refine tw_lor C dX3_setLink_20 (v := lN (1099478073344 ||| (v % 65536))) (lN_or _ _) ?_
    refine tw_lstore (L' := [(5, .long (lN (1099478073344 ||| (v % 65536)))), (0, .ref (tw_ad G 5)), (1, .int (nI 1)), (2, .int (bI t)), (3, .long (lN v))]) C N dX3_setLink_21 (i := 5) (by decide) rfl ?_
    refine tw_iload_n C dX3_setLink_23 2 rfl ?_
    refine tn_if_ne C dX3_setLink_24 (tgt := 36) (by decide) (by decide) (fun c2 => ?_) (fun c2 => ?_)
    · skip
      refine tw_aload_n C dX3_setLink_36 1 rfl ?_
      refine tw_lload C dX3_setLink_37 0 rfl ?_
      refine tw_putJ (k := 3) C dX3_setLink_39 fc_X3 sh_5 (hG 5 (by decide)) rfl (by decide) rfl wd_53 rfl rfl ?_
      exact tw_return (v := ()) C Q dX3_setLink_42 rfl rfl (by simp [c1])
    · exact absurd c2 (by decide)
  · skip
    refine tw_lload_n C dX3_setLink_4 3 rfl ?_
    refine tw_ldc2 C dX3_setLink_5 wd_127 (w := lN 144115188075855872) (by decide) ?_
    refine tw_lxor C dX3_setLink_8 (v := lN (v ^^^ 144115188075855872)) (lN_xor _ _) ?_
    refine tw_goto C dX3_setLink_9 (tgt := 21) (by decide) ?_
    refine tw_lstore (L' := [(5, .long (lN (v ^^^ 144115188075855872))), (0, .ref (tw_ad G 5)), (1, .int (nI 1)), (2, .int (bI t)), (3, .long (lN v))]) C N dX3_setLink_21 (i := 5) (by decide) rfl ?_
    refine tw_iload_n C dX3_setLink_23 2 rfl ?_
    refine tn_if_ne C dX3_setLink_24 (tgt := 36) (by decide) (by decide) (fun c2 => ?_) (fun c2 => ?_)
    · skip
      refine tw_aload_n C dX3_setLink_36 1 rfl ?_
      refine tw_lload C dX3_setLink_37 0 rfl ?_
      refine tw_putJ (k := 3) C dX3_setLink_39 fc_X3 sh_5 (hG 5 (by decide)) rfl (by decide) rfl wd_53 rfl rfl ?_
      exact tw_return (v := ()) C Q dX3_setLink_42 rfl rfl (by simp [c1])
    · exact absurd c2 (by decide)
theorem c_X3_own0 {G : tw_G} (hG : tw_cG G) {S : tw_S} {K : kN} (hK : KN S K) : tw_M G yX3_own cX3_own 2 (some .long) 0 0 [.ref (tw_ad G 5), .int (nI 0)] S ri_J (fun v S' => v = lN (kO K 0) ∧ S = S') := by
  refine tw_M.of (L := [(0, .ref (tw_ad G 5)), (1, .int (nI 0))]) (by decide) (Nat.le_of_ble_eq_true rfl) rfl (fun X C N Q => ?_)
  have C : tw_C G X cX3_own RX3 := C
  refine tw_iload_n C dX3_own_0 1 rfl ?_
  refine tn_if_ne C dX3_own_1 (tgt := 11) (by decide) (by decide) (fun c2 => ?_) (fun c2 => ?_)
  · exact absurd c2 (by decide)
  refine tw_aload_n C dX3_own_4 0 rfl ?_
  refine tw_getJ (v := lN (kO K 0)) (k := 2) C dX3_own_5 fc_X3 sh_5 (hG 5 (by decide)) rfl (by decide) wd_52 hK.2.2.1 ?_
  refine tw_goto C dX3_own_8 (tgt := 15) (by decide) ?_
  exact tw_lreturn C Q dX3_own_15 rfl rfl ⟨rfl, rfl⟩
theorem c_X3_own1 {G : tw_G} (hG : tw_cG G) {S : tw_S} {K : kN} (hK : KN S K) : tw_M G yX3_own cX3_own 2 (some .long) 0 0 [.ref (tw_ad G 5), .int (nI 1)] S ri_J (fun v S' => v = lN (kO K 1) ∧ S = S') := by
  refine tw_M.of (L := [(0, .ref (tw_ad G 5)), (1, .int (nI 1))]) (by decide) (Nat.le_of_ble_eq_true rfl) rfl (fun X C N Q => ?_)
  have C : tw_C G X cX3_own RX3 := C
  refine tw_iload_n C dX3_own_0 1 rfl ?_
  refine tn_if_ne C dX3_own_1 (tgt := 11) (by decide) (by decide) (fun c2 => ?_) (fun c2 => ?_)
  · skip
    refine tw_aload_n C dX3_own_11 0 rfl ?_
    refine tw_getJ (v := lN (kO K 1)) (k := 3) C dX3_own_12 fc_X3 sh_5 (hG 5 (by decide)) rfl (by decide) wd_53 hK.2.2.2.1 ?_
    exact tw_lreturn C Q dX3_own_15 rfl rfl ⟨rfl, rfl⟩
  · exact absurd c2 (by decide)
theorem c_X3_own {G : tw_G} (hG : tw_cG G) {S : tw_S} {K : kN} (hK : KN S K) {w : Nat} (hw : w < 2) : tw_M G yX3_own cX3_own 2 (some .long) 0 0 [.ref (tw_ad G 5), .int (nI w)] S ri_J (fun v S' => v = lN (kO K w) ∧ S = S') := by
  rcases (show w = 0 ∨ w = 1 by omega) with rfl | rfl
  · exact c_X3_own0 hG hK
  · exact c_X3_own1 hG hK
theorem c_X3_least {G : tw_G} (hG : tw_cG G) {S : tw_S} {K : kN} (hK : KN S K) {v : Nat} (hv : v < 2 ^ 64) : tw_M G yX3_least cX3_least 4 (some .int) 0 0 [.ref (tw_ad G 5), .long (lN v)] S ri_I (fun x S' => x = lsI (lst K v 0 16) ∧ S = S') := by
  refine tw_M.of (L := [(0, .ref (tw_ad G 5)), (1, .long (lN v))]) (by decide) (Nat.le_of_ble_eq_true rfl) rfl (fun X C N Q => ?_)
  have C : tw_C G X cX3_least RX3 := C
  have loop : ∀ (d : Nat) (j : Nat) (_ : j + d = 16) (_ : lst K v 0 16 = lst K v j d), TW G X S [(3, .int (nI j)), (0, .ref (tw_ad G 5)), (1, .long (lN v))] 2 [] := by
    intro d
    induction d with
    | zero =>
      intro j hj hj2
      refine tw_iload_n C dX3_least_2 0 rfl ?_
      refine tw_bipush C dX3_least_3 (v := nI 16) (by decide) ?_
      refine tn_icmp_ge C dX3_least_5 (tgt := 36) (by decide) (by omega) (by omega) (fun c1 => ?_) (fun c1 => ?_)
      · skip
        refine tw_iconst C dX3_least_36 (v := (-1)) (by decide) ?_
        exact tw_ireturn C Q dX3_least_37 rfl rfl rfl ⟨by rw [hj2]; rfl, rfl⟩
      · exact absurd c1 (by omega)
    | succ d ih =>
      intro j hj hj2
      refine tw_iload_n C dX3_least_2 0 rfl ?_
      refine tw_bipush C dX3_least_3 (v := nI 16) (by decide) ?_
      refine tn_icmp_ge C dX3_least_5 (tgt := 36) (by decide) (by omega) (by omega) (fun c1 => ?_) (fun c1 => ?_)
      · exact absurd c1 (by omega)
      refine tw_aload_n C dX3_least_8 1 rfl ?_
      refine tw_getR (q := 6) (k := 0) C dX3_least_9 fc_X3 sh_5 (hG 5 (by decide)) rfl (by decide) wd_48 ?_
      refine tw_iload_n C dX3_least_12 0 rfl ?_
      refine tw_zald (v := bI (kT K j)) C dX3_least_13 sn_6 sa_6 (hG 6 (by decide)) (by omega) (by decide) (hK.1 _ (by omega)) ?_
      refine tb_if_eq C dX3_least_14 (tgt := 30) (by decide) (fun ct => ?_) (fun ct => ?_)
      · skip
        refine tw_iinc (k := 0) (v := nI (j + 1)) (L' := [(3, .int (nI (j + 1))), (0, .ref (tw_ad G 5)), (1, .long (lN v))]) C N dX3_least_30 rfl (tn_inc1 _) (by decide) rfl ?_
        refine tw_goto C dX3_least_33 (tgt := 2) (by decide) ?_
        exact ih (j + 1) (by omega) (by rw [hj2]; simp only [lst]; rw [if_neg (by first | (rw [ct]; simp; done) | exact fun h => cv h.2)])
      · skip
        refine tw_aload_n C dX3_least_17 1 rfl ?_
        refine tw_getR (q := 7) (k := 1) C dX3_least_18 fc_X3 sh_5 (hG 5 (by decide)) rfl (by decide) wd_50 ?_
        refine tw_iload_n C dX3_least_21 0 rfl ?_
        refine tw_lald (v := lN (kV K j)) C dX3_least_22 sn_7 sa_7 (hG 7 (by decide)) (by omega) (by decide) (hK.2.1 _ (by omega)) ?_
        refine tw_lload_n C dX3_least_23 2 rfl ?_
        refine tw_lcmp C dX3_least_24 ?_
        refine tl_if_ne C dX3_least_25 (tgt := 30) (by decide) (hK.2.2.2.2.1 _) hv (fun cv => ?_) (fun cv => ?_)
        · skip
          refine tw_iinc (k := 0) (v := nI (j + 1)) (L' := [(3, .int (nI (j + 1))), (0, .ref (tw_ad G 5)), (1, .long (lN v))]) C N dX3_least_30 rfl (tn_inc1 _) (by decide) rfl ?_
          refine tw_goto C dX3_least_33 (tgt := 2) (by decide) ?_
          exact ih (j + 1) (by omega) (by rw [hj2]; simp only [lst]; rw [if_neg (by first | (rw [ct]; simp; done) | exact fun h => cv h.2)])
        · skip
          refine tw_iload_n C dX3_least_28 0 rfl ?_
          exact tw_ireturn C Q dX3_least_29 rfl rfl rfl ⟨by rw [hj2]; simp [lst, lsI, ct, cv], rfl⟩
  refine tw_iconst C dX3_least_0 (v := nI 0) (by decide) ?_
  refine tw_istore_n (L' := [(3, .int (nI 0)), (0, .ref (tw_ad G 5)), (1, .long (lN v))]) C N dX3_least_1 rfl (by decide) rfl ?_
  exact loop 16 0 rfl rfl
theorem c_X4_bytesOf {G : tw_G} (hG : tw_cG G) {S : tw_S} {m : Nat} (hm : m < 2 ^ 31) : tw_M G yX4_bytesOf cX4_bytesOf 1 (some .int) 0 0 [.int (nI m)] S ri_I (fun v S' => v = nI (tabN m) ∧ S = S') := by
  refine tw_M.of (L := [(0, .int (nI m))]) (by decide) (Nat.le_of_ble_eq_true rfl) rfl (fun X C N Q => ?_)
  have C : tw_C G X cX4_bytesOf RX4 := C
  refine tw_iload_n C dX4_bytesOf_0 0 rfl ?_
  refine tn_if_lt C dX4_bytesOf_1 (tgt := 20) (by decide) (by omega) (fun c1 => ?_) (fun c1 => ?_)
  · exact absurd c1 id
  refine tw_iload_n C dX4_bytesOf_4 0 rfl ?_
  refine tw_gets C dX4_bytesOf_5 wd_288 ?_
  refine tw_tlen C dX4_bytesOf_8 ?_
  refine tn_icmp_ge C dX4_bytesOf_9 (tgt := 20) (by decide) (by omega) (by omega) (fun c2 => ?_) (fun c2 => ?_)
  · skip
    refine tw_iconst C dX4_bytesOf_20 (v := nI 0) (by decide) ?_
    exact tw_ireturn C Q dX4_bytesOf_21 rfl rfl rfl ⟨by rw [tabN_out (by omega)], rfl⟩
  · skip
    refine tw_gets C dX4_bytesOf_12 wd_288 ?_
    refine tw_iload_n C dX4_bytesOf_15 0 rfl ?_
    refine tw_tald C dX4_bytesOf_16 (v := nI (tabN m)) (by omega) (tabN_tab _ (by omega)) ?_
    refine tw_goto C dX4_bytesOf_17 (tgt := 21) (by decide) ?_
    exact tw_ireturn C Q dX4_bytesOf_21 rfl rfl rfl ⟨rfl, rfl⟩
theorem c_X4_usesContext {G : tw_G} (hG : tw_cG G) {S : tw_S} {m : Nat} (hm : m < 2 ^ 31) : tw_M G yX4_usesContext cX4_usesContext 1 (some .boolean) 0 0 [.int (nI m)] S ri_I (fun v S' => v = bI (decide (4 < m ∧ m < 8)) ∧ S = S') := by
  refine tw_M.of (L := [(0, .int (nI m))]) (by decide) (Nat.le_of_ble_eq_true rfl) rfl (fun X C N Q => ?_)
  have C : tw_C G X cX4_usesContext RX4 := C
  refine tw_iload_n C dX4_usesContext_0 0 rfl ?_
  refine tw_iconst C dX4_usesContext_1 (v := nI 4) (by decide) ?_
  refine tn_icmp_le C dX4_usesContext_2 (tgt := 15) (by decide) (by omega) (by omega) (fun c1 => ?_) (fun c1 => ?_)
  · skip
    refine tw_iconst C dX4_usesContext_15 (v := nI 0) (by decide) ?_
    exact tw_ireturn C Q dX4_usesContext_16 rfl rfl rfl ⟨bI_of_f (by omega), rfl⟩
  · skip
    refine tw_iload_n C dX4_usesContext_5 0 rfl ?_
    refine tw_bipush C dX4_usesContext_6 (v := nI 8) (by decide) ?_
    refine tn_icmp_ge C dX4_usesContext_8 (tgt := 15) (by decide) (by omega) (by omega) (fun c2 => ?_) (fun c2 => ?_)
    · skip
      refine tw_iconst C dX4_usesContext_15 (v := nI 0) (by decide) ?_
      exact tw_ireturn C Q dX4_usesContext_16 rfl rfl rfl ⟨bI_of_f (by omega), rfl⟩
    · skip
      refine tw_iconst C dX4_usesContext_11 (v := nI 1) (by decide) ?_
      refine tw_goto C dX4_usesContext_12 (tgt := 16) (by decide) ?_
      exact tw_ireturn C Q dX4_usesContext_16 rfl rfl rfl ⟨bI_of_t (by omega), rfl⟩
theorem c_X4_ofLast {G : tw_G} (hG : tw_cG G) {S : tw_S} {K : kN} (hK : KN S K) {w l : Nat} (hw : w < 2) (hl : l < 2 ^ 64) : tw_M G yX4_ofLast cX4_ofLast 4 (some .int) 1 21 [.ref (tw_ad G 5), .int (nI w), .long (lN l)] S ri_I (fun v S' => v = nI (mLast K w l) ∧ S = S') := by
  refine tw_M.of (L := [(0, .ref (tw_ad G 5)), (1, .int (nI w)), (2, .long (lN l))]) (by decide) (Nat.le_of_ble_eq_true rfl) rfl (fun X C N Q => ?_)
  have C : tw_C G X cX4_ofLast RX4 := C
  have ho := hK.2.2.2.2.2 w
  refine tw_lload_n C dX4_ofLast_0 2 rfl ?_
  refine tw_aload_n C dX4_ofLast_1 0 rfl ?_
  refine tw_iload_n C dX4_ofLast_2 1 rfl ?_
  refine tw_callV (As := [.int (nI w)]) (rest := [.long (lN l)]) C N (c_X3_own hG (S := S) hK (w := w) (by omega)) mm_X3_own wd_248 rfl (hG 5 (by decide)) sh_5 rfl (by decide) rfl (Nat.le_of_ble_eq_true rfl) dX4_ofLast_3 ?_
  rintro _ _ ⟨rfl, rfl⟩
  show TW G X S [(0, .ref (tw_ad G 5)), (1, .int (nI w)), (2, .long (lN l))] 6 [.long (lN (kO K w)), .long (lN l)]
  refine tw_lcmp C dX4_ofLast_6 ?_
  refine tl_if_ne C dX4_ofLast_7 (tgt := 12) (by decide) hl ho (fun c1 => ?_) (fun c1 => ?_)
  · skip
    refine tw_lload_n C dX4_ofLast_12 2 rfl ?_
    refine tw_bipush C dX4_ofLast_13 (v := nI 16) (by decide) ?_
    refine tw_lushr C dX4_ofLast_15 (v := lN (l / 65536)) (lN_ushr (by omega) 16 (by decide)) ?_
    refine tw_ldc2 C dX4_ofLast_16 wd_247 (w := lN 16776704) (by decide) ?_
    refine tw_lcmp C dX4_ofLast_19 ?_
    refine tl_if_ne C dX4_ofLast_20 (tgt := 27) (by decide) (by omega) (by decide) (fun c2 => ?_) (fun c2 => ?_)
    · skip
      refine tw_iconst C dX4_ofLast_27 (v := nI 1) (by decide) ?_
      exact tw_ireturn C Q dX4_ofLast_28 rfl rfl rfl ⟨by simp [mLast, *], rfl⟩
    · skip
      refine tw_iconst C dX4_ofLast_23 (v := nI 2) (by decide) ?_
      refine tw_goto C dX4_ofLast_24 (tgt := 28) (by decide) ?_
      exact tw_ireturn C Q dX4_ofLast_28 rfl rfl rfl ⟨by simp [mLast, *], rfl⟩
  · skip
    refine tw_iconst C dX4_ofLast_10 (v := nI 3) (by decide) ?_
    exact tw_ireturn C Q dX4_ofLast_11 rfl rfl rfl ⟨by simp [mLast, *], rfl⟩
theorem lsI_m1 (o : Option Nat) (h : ∀ i, o = some i → i < 2 ^ 31) : lsI o = -1 ↔ o = none := by
  cases o with
  | none => simp [lsI]
  | some i =>
    simp only [lsI, reduceCtorEq, iff_false]
    intro hh
    have h1 := nI_pos (h i rfl)
    rw [hh] at h1
    exact h1 (by decide)
theorem c_X4_ofOne {G : tw_G} (hG : tw_cG G) {S : tw_S} {K : kN} (hK : KN S K) {w f l : Nat} (hw : w < 2) (hf : f < 2 ^ 64) (hl : l < 2 ^ 64) : tw_M G yX4_ofOne cX4_ofOne 6 (some .int) 2 44 [.ref (tw_ad G 5), .int (nI w), .long (lN f), .long (lN l)] S ri_I (fun v S' => v = nI (mOne K w f l) ∧ S = S') := by
  refine tw_M.of (L := [(0, .ref (tw_ad G 5)), (1, .int (nI w)), (2, .long (lN f)), (4, .long (lN l))]) (by decide) (Nat.le_of_ble_eq_true rfl) rfl (fun X C N Q => ?_)
  have C : tw_C G X cX4_ofOne RX4 := C
  refine tw_lload_n C dX4_ofOne_0 2 rfl ?_
  refine tw_ldc2 C dX4_ofOne_1 wd_243 (w := lN 18338657682652659712) (by decide) ?_
  refine tw_lcmp C dX4_ofOne_4 ?_
  refine tl_if_ne C dX4_ofOne_5 (tgt := 16) (by decide) hf (by decide) (fun c1 => ?_) (fun c1 => ?_)
  · skip
    refine tw_aload_n C dX4_ofOne_16 0 rfl ?_
    refine tw_lload_n C dX4_ofOne_17 2 rfl ?_
    refine tw_callV (As := [.long (lN f)]) (rest := []) C N (c_X3_least hG (S := S) hK (v := f) (by omega)) mm_X3_least wd_252 rfl (hG 5 (by decide)) sh_5 rfl (by decide) rfl (Nat.le_of_ble_eq_true rfl) dX4_ofOne_18 ?_
    rintro _ _ ⟨rfl, rfl⟩
    show TW G X S [(0, .ref (tw_ad G 5)), (1, .int (nI w)), (2, .long (lN f)), (4, .long (lN l))] 21 [.int (lsI (lst K f 0 16))]
    refine tw_iconst C dX4_ofOne_21 (v := (-1)) (by decide) ?_
    refine tw_icmp_eq C dX4_ofOne_22 (tgt := 35) (by decide) (fun c2 => ?_) (fun c2 => ?_)
    · have c3 := (lsI_m1 _ (fun i hi => by have := lst_lt K f 16 0 i hi; omega)).mp c2
      refine tw_iconst C dX4_ofOne_35 (v := nI 0) (by decide) ?_
      exact tw_ireturn C Q dX4_ofOne_36 rfl rfl rfl ⟨by simp [mOne, *], rfl⟩
    · have c3 : ¬ lst K f 0 16 = none := fun h => c2 ((lsI_m1 _ (fun i hi => by have := lst_lt K f 16 0 i hi; omega)).mpr h)
      refine tw_iconst C dX4_ofOne_25 (v := nI 4) (by decide) ?_
      refine tw_aload_n C dX4_ofOne_26 0 rfl ?_
      refine tw_iload_n C dX4_ofOne_27 1 rfl ?_
      refine tw_lload C dX4_ofOne_28 3 rfl ?_
      refine tw_callS (As := [.ref (tw_ad G 5), .int (nI w), .long (lN l)]) (rest := [.int (nI 4)]) C N (c_X4_ofLast hG (S := S) hK (w := w) (l := l) (by omega) (by omega)) mm_X4_ofLast wd_244 rfl (by decide) rfl (Nat.le_of_ble_eq_true rfl) dX4_ofOne_30 ?_
      rintro _ _ ⟨rfl, rfl⟩
      show TW G X S [(0, .ref (tw_ad G 5)), (1, .int (nI w)), (2, .long (lN f)), (4, .long (lN l))] 33 [.int (nI (mLast K w l)), .int (nI 4)]
      refine tw_iadd C dX4_ofOne_33 (v := nI (4 + (mLast K w l))) (nI_add _ _) ?_
      exact tw_ireturn C Q dX4_ofOne_34 rfl rfl rfl ⟨by simp [mOne, *], rfl⟩
  · skip
    refine tw_aload_n C dX4_ofOne_8 0 rfl ?_
    refine tw_iload_n C dX4_ofOne_9 1 rfl ?_
    refine tw_lload C dX4_ofOne_10 3 rfl ?_
    refine tw_callS (As := [.ref (tw_ad G 5), .int (nI w), .long (lN l)]) (rest := []) C N (c_X4_ofLast hG (S := S) hK (w := w) (l := l) (by omega) (by omega)) mm_X4_ofLast wd_244 rfl (by decide) rfl (Nat.le_of_ble_eq_true rfl) dX4_ofOne_12 ?_
    rintro _ _ ⟨rfl, rfl⟩
    show TW G X S [(0, .ref (tw_ad G 5)), (1, .int (nI w)), (2, .long (lN f)), (4, .long (lN l))] 15 [.int (nI (mLast K w l))]
    exact tw_ireturn C Q dX4_ofOne_15 rfl rfl rfl ⟨by simp [mOne, *], rfl⟩
theorem c_X4_ofSource {G : tw_G} (hG : tw_cG G) {S : tw_S} {K : kN} (hK : KN S K) {f l : Nat} (hf : f < 2 ^ 64) (hl : l < 2 ^ 64) : tw_M G yX4_ofSource cX4_ofSource 5 (some .int) 3 69 [.ref (tw_ad G 5), .long (lN f), .long (lN l)] S ri_I (fun v S' => v = nI (mSrc K f l) ∧ S = S') := by
  refine tw_M.of (L := [(0, .ref (tw_ad G 5)), (1, .long (lN f)), (3, .long (lN l))]) (by decide) (Nat.le_of_ble_eq_true rfl) rfl (fun X C N Q => ?_)
  have C : tw_C G X cX4_ofSource RX4 := C
  refine tw_lload_n C dX4_ofSource_0 1 rfl ?_
  refine tw_lconst C dX4_ofSource_1 (v := lN 0) rfl ?_
  refine tw_lcmp C dX4_ofSource_2 ?_
  refine tl_if_ne C dX4_ofSource_3 (tgt := 14) (by decide) hf (by decide) (fun c1 => ?_) (fun c1 => ?_)
  · skip
    refine tw_aload_n C dX4_ofSource_14 0 rfl ?_
    refine tw_iconst C dX4_ofSource_15 (v := nI 0) (by decide) ?_
    refine tw_lload_n C dX4_ofSource_16 1 rfl ?_
    refine tw_lload_n C dX4_ofSource_17 2 rfl ?_
    refine tw_callS (As := [.ref (tw_ad G 5), .int (nI 0), .long (lN f), .long (lN l)]) (rest := []) C N (c_X4_ofOne hG (S := S) hK (w := 0) (f := f) (l := l) (by omega) (by omega) (by omega)) mm_X4_ofOne wd_240 rfl (by decide) rfl (Nat.le_of_ble_eq_true rfl) dX4_ofSource_18 ?_
    rintro _ _ ⟨rfl, rfl⟩
    show TW G X S [(0, .ref (tw_ad G 5)), (1, .long (lN f)), (3, .long (lN l))] 21 [.int (nI (mOne K 0 f l))]
    exact tw_ireturn C Q dX4_ofSource_21 rfl rfl rfl ⟨by simp [mSrc, *], rfl⟩
  · skip
    refine tw_lload_n C dX4_ofSource_6 2 rfl ?_
    refine tw_lconst C dX4_ofSource_7 (v := lN 0) rfl ?_
    refine tw_lcmp C dX4_ofSource_8 ?_
    refine tl_if_ne C dX4_ofSource_9 (tgt := 14) (by decide) hl (by decide) (fun c2 => ?_) (fun c2 => ?_)
    · skip
      refine tw_aload_n C dX4_ofSource_14 0 rfl ?_
      refine tw_iconst C dX4_ofSource_15 (v := nI 0) (by decide) ?_
      refine tw_lload_n C dX4_ofSource_16 1 rfl ?_
      refine tw_lload_n C dX4_ofSource_17 2 rfl ?_
      refine tw_callS (As := [.ref (tw_ad G 5), .int (nI 0), .long (lN f), .long (lN l)]) (rest := []) C N (c_X4_ofOne hG (S := S) hK (w := 0) (f := f) (l := l) (by omega) (by omega) (by omega)) mm_X4_ofOne wd_240 rfl (by decide) rfl (Nat.le_of_ble_eq_true rfl) dX4_ofSource_18 ?_
      rintro _ _ ⟨rfl, rfl⟩
      show TW G X S [(0, .ref (tw_ad G 5)), (1, .long (lN f)), (3, .long (lN l))] 21 [.int (nI (mOne K 0 f l))]
      exact tw_ireturn C Q dX4_ofSource_21 rfl rfl rfl ⟨by simp [mSrc, *], rfl⟩
    · skip
      refine tw_iconst C dX4_ofSource_12 (v := nI 4) (by decide) ?_
      exact tw_ireturn C Q dX4_ofSource_13 rfl rfl rfl ⟨by simp [mSrc, *], rfl⟩
theorem c_X4_ofMany {G : tw_G} (hG : tw_cG G) {S : tw_S} {f l : Nat} (hf : f < 2 ^ 64) (hl : l < 2 ^ 64) : tw_M G yX4_ofMany cX4_ofMany 4 (some .int) 0 0 [.long (lN f), .long (lN l)] S ri_I (fun v S' => v = nI (mMany f l) ∧ S = S') := by
  refine tw_M.of (L := [(0, .long (lN f)), (2, .long (lN l))]) (by decide) (Nat.le_of_ble_eq_true rfl) rfl (fun X C N Q => ?_)
  have C : tw_C G X cX4_ofMany RX4 := C
  refine tw_lload_n C dX4_ofMany_0 0 rfl ?_
  refine tw_ldc2 C dX4_ofMany_1 wd_263 (w := lN 281474976710655) (by decide) ?_
  refine tw_land C dX4_ofMany_4 (v := lN (f % 281474976710656)) (lN_andm 48) ?_
  refine tw_lconst C dX4_ofMany_5 (v := lN 0) rfl ?_
  refine tw_lcmp C dX4_ofMany_6 ?_
  refine tl_if_ne C dX4_ofMany_7 (tgt := 19) (by decide) (by omega) (by decide) (fun c1 => ?_) (fun c1 => ?_)
  · skip
    refine tw_bipush C dX4_ofMany_19 (v := nI 8) (by decide) ?_
    exact tw_ireturn C Q dX4_ofMany_21 rfl rfl rfl ⟨by simp [mMany, *], rfl⟩
  · skip
    refine tw_lload_n C dX4_ofMany_10 1 rfl ?_
    refine tw_bipush C dX4_ofMany_11 (v := nI 40) (by decide) ?_
    refine tw_lushr C dX4_ofMany_13 (v := lN (l / 1099511627776)) (lN_ushr (by omega) 40 (by decide)) ?_
    refine tw_lconst C dX4_ofMany_14 (v := lN 0) rfl ?_
    refine tw_lcmp C dX4_ofMany_15 ?_
    refine tl_if_eq C dX4_ofMany_16 (tgt := 22) (by decide) (by omega) (by decide) (fun c2 => ?_) (fun c2 => ?_)
    · skip
      refine tw_lload_n C dX4_ofMany_22 1 rfl ?_
      refine tw_bipush C dX4_ofMany_23 (v := nI 24) (by decide) ?_
      refine tw_lushr C dX4_ofMany_25 (v := lN (l / 16777216)) (lN_ushr (by omega) 24 (by decide)) ?_
      refine tw_lconst C dX4_ofMany_26 (v := lN 0) rfl ?_
      refine tw_lcmp C dX4_ofMany_27 ?_
      refine tl_if_eq C dX4_ofMany_28 (tgt := 34) (by decide) (by omega) (by decide) (fun c3 => ?_) (fun c3 => ?_)
      · skip
        refine tw_lload_n C dX4_ofMany_34 1 rfl ?_
        refine tw_bipush C dX4_ofMany_35 (v := nI 8) (by decide) ?_
        refine tw_lushr C dX4_ofMany_37 (v := lN (l / 256)) (lN_ushr (by omega) 8 (by decide)) ?_
        refine tw_lconst C dX4_ofMany_38 (v := lN 0) rfl ?_
        refine tw_lcmp C dX4_ofMany_39 ?_
        refine tl_if_ne C dX4_ofMany_40 (tgt := 63) (by decide) (by omega) (by decide) (fun c4 => ?_) (fun c4 => ?_)
        · skip
          refine tw_bipush C dX4_ofMany_63 (v := nI 10) (by decide) ?_
          exact tw_ireturn C Q dX4_ofMany_65 rfl rfl rfl ⟨by simp [mMany, *], rfl⟩
        · skip
          refine tw_lload_n C dX4_ofMany_43 0 rfl ?_
          refine tw_bipush C dX4_ofMany_44 (v := nI 48) (by decide) ?_
          refine tw_lushr C dX4_ofMany_46 (v := lN (f / 281474976710656)) (lN_ushr (by omega) 48 (by decide)) ?_
          refine tw_ldc2 C dX4_ofMany_47 wd_259 (w := lN 255) (by decide) ?_
          refine tw_land C dX4_ofMany_50 (v := lN ((f / 281474976710656) % 256)) (lN_andm 8) ?_
          refine tw_ldc2 C dX4_ofMany_51 wd_264 (w := lN 2) (by decide) ?_
          refine tw_lcmp C dX4_ofMany_54 ?_
          refine tl_if_ne C dX4_ofMany_55 (tgt := 63) (by decide) (by omega) (by decide) (fun c5 => ?_) (fun c5 => ?_)
          · skip
            refine tw_bipush C dX4_ofMany_63 (v := nI 10) (by decide) ?_
            exact tw_ireturn C Q dX4_ofMany_65 rfl rfl rfl ⟨by simp [mMany, *], rfl⟩
          · skip
            refine tw_bipush C dX4_ofMany_58 (v := nI 11) (by decide) ?_
            refine tw_goto C dX4_ofMany_60 (tgt := 65) (by decide) ?_
            exact tw_ireturn C Q dX4_ofMany_65 rfl rfl rfl ⟨by simp [mMany, *], rfl⟩
      · skip
        refine tw_bipush C dX4_ofMany_31 (v := nI 9) (by decide) ?_
        exact tw_ireturn C Q dX4_ofMany_33 rfl rfl rfl ⟨by simp [mMany, *], rfl⟩
    · skip
      refine tw_bipush C dX4_ofMany_19 (v := nI 8) (by decide) ?_
      exact tw_ireturn C Q dX4_ofMany_21 rfl rfl rfl ⟨by simp [mMany, *], rfl⟩
theorem c_X4_ofGoal {G : tw_G} (hG : tw_cG G) {S : tw_S} {K : kN} (hK : KN S K) {f l : Nat} (hf : f < 2 ^ 64) (hl : l < 2 ^ 64) : tw_M G yX4_ofGoal cX4_ofGoal 5 (some .int) 3 69 [.ref (tw_ad G 5), .long (lN f), .long (lN l)] S ri_I (fun v S' => v = nI (mGoal K f l) ∧ S = S') := by
  refine tw_M.of (L := [(0, .ref (tw_ad G 5)), (1, .long (lN f)), (3, .long (lN l))]) (by decide) (Nat.le_of_ble_eq_true rfl) rfl (fun X C N Q => ?_)
  have C : tw_C G X cX4_ofGoal RX4 := C
  refine tw_lload_n C dX4_ofGoal_0 1 rfl ?_
  refine tw_bipush C dX4_ofGoal_1 (v := nI 56) (by decide) ?_
  refine tw_lushr C dX4_ofGoal_3 (v := lN (f / 72057594037927936)) (lN_ushr (by omega) 56 (by decide)) ?_
  refine tw_ldc2 C dX4_ofGoal_4 wd_259 (w := lN 255) (by decide) ?_
  refine tw_lcmp C dX4_ofGoal_7 ?_
  refine tl_if_ne C dX4_ofGoal_8 (tgt := 17) (by decide) (by omega) (by decide) (fun c1 => ?_) (fun c1 => ?_)
  · skip
    refine tw_aload_n C dX4_ofGoal_17 0 rfl ?_
    refine tw_iconst C dX4_ofGoal_18 (v := nI 1) (by decide) ?_
    refine tw_lload_n C dX4_ofGoal_19 1 rfl ?_
    refine tw_lload_n C dX4_ofGoal_20 2 rfl ?_
    refine tw_callS (As := [.ref (tw_ad G 5), .int (nI 1), .long (lN f), .long (lN l)]) (rest := []) C N (c_X4_ofOne hG (S := S) hK (w := 1) (f := f) (l := l) (by omega) (by omega) (by omega)) mm_X4_ofOne wd_240 rfl (by decide) rfl (Nat.le_of_ble_eq_true rfl) dX4_ofGoal_21 ?_
    rintro _ _ ⟨rfl, rfl⟩
    show TW G X S [(0, .ref (tw_ad G 5)), (1, .long (lN f)), (3, .long (lN l))] 24 [.int (nI (mOne K 1 f l))]
    exact tw_ireturn C Q dX4_ofGoal_24 rfl rfl rfl ⟨by simp [mGoal, *], rfl⟩
  · skip
    refine tw_lload_n C dX4_ofGoal_11 1 rfl ?_
    refine tw_lload_n C dX4_ofGoal_12 2 rfl ?_
    refine tw_callS (As := [.long (lN f), .long (lN l)]) (rest := []) C N (c_X4_ofMany hG (S := S) (f := f) (l := l) (by omega) (by omega)) mm_X4_ofMany wd_260 rfl (by decide) rfl (Nat.le_of_ble_eq_true rfl) dX4_ofGoal_13 ?_
    rintro _ _ ⟨rfl, rfl⟩
    show TW G X S [(0, .ref (tw_ad G 5)), (1, .long (lN f)), (3, .long (lN l))] 16 [.int (nI (mMany f l))]
    exact tw_ireturn C Q dX4_ofGoal_16 rfl rfl rfl ⟨by simp [mGoal, *], rfl⟩
