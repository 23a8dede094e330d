theorem tabN_8 {m : Nat} (h : ¬ tabN m = 16) : tabN m ≤ 8 := by
  by_cases hm : m < 12
  · have h0 : ∀ m, m < 12 → ¬ tabN m = 16 → tabN m ≤ 8 := by decide
    exact h0 m hm h
  · rw [tabN_out hm]; omega
theorem or16 {a x : Nat} (h : x < 16) : a * 16 ||| x = a * 16 + x := by
  have := Nat.two_pow_add_eq_or_of_lt (i := 4) (b := x) h a
  simp only [Nat.reducePow] at this
  rw [Nat.mul_comm a 16, this]
theorem sqTF_1 {t l : Nat} (h : sqTF t l = 1) : t / 4 = 0 := by
  unfold sqTF at h
  split at h
  · split at h <;> omega
  · split at h
    · assumption
    · omega
theorem tw_cap_ge (r : Nat) : 120 ≤ tw_cap r := by
  unfold tw_cap
  split
  · omega
  · split <;> omega
theorem c_X8_writeAddress {G : tw_G} (hG : tw_cG G) {S : tw_S} {q : Nat} (hq : tw_isRow q = true) {ys : List Nat} (hy : tw_R S q = ys) {m f l : Nat} (hm : m < 2 ^ 31) (hf : f < 2 ^ 64) (hl : l < 2 ^ 64) : tw_M G yX8_writeAddress cX8_writeAddress 7 none 2 45 [.int (nI m), .long (lN f), .long (lN l), .ref (tw_ad G q)] S ri_V (fun _ S' => S' = tw_uR S q ((ys ++ sqAd m f l).take (tw_cap q))) := by
  refine tw_M.of (L := [(0, .int (nI m)), (1, .long (lN f)), (3, .long (lN l)), (5, .ref (tw_ad G q))]) (by decide) (Nat.le_of_ble_eq_true rfl) rfl (fun X C N Q => ?_)
  have C : tw_C G X cX8_writeAddress RX8 := C
  refine tw_iload_n C dX8_writeAddress_0 0 rfl ?_
  refine tw_callS (As := [.int (nI m)]) (rest := []) C N (c_X4_bytesOf hG (m := m) (by omega)) mm_X4_bytesOf wd_365 rfl (by decide) rfl (Nat.le_of_ble_eq_true rfl) dX8_writeAddress_1 ?_
  rintro _ _ ⟨rfl, rfl⟩
  show TW G X S [(0, .int (nI m)), (1, .long (lN f)), (3, .long (lN l)), (5, .ref (tw_ad G q))] 4 [.int (nI (tabN m))]
  refine tw_istore (L' := [(6, .int (nI (tabN m))), (0, .int (nI m)), (1, .long (lN f)), (3, .long (lN l)), (5, .ref (tw_ad G q))]) C N dX8_writeAddress_4 (i := 6) (by decide) rfl ?_
  have ht16 := tabN_le m
  refine tw_iload C dX8_writeAddress_6 0 rfl ?_
  refine tw_bipush C dX8_writeAddress_8 (v := nI 16) (by decide) ?_
  refine tn_icmp_ne C dX8_writeAddress_10 (tgt := 32) (by decide) (by omega) (by omega) (fun c1 => ?_) (fun c1 => ?_)
  · skip
    refine tw_iload_n C dX8_writeAddress_32 1 rfl ?_
    refine tw_bipush C dX8_writeAddress_33 (v := nI 9) (by decide) ?_
    refine tn_icmp_eq C dX8_writeAddress_35 (tgt := 44) (by decide) (by omega) (by omega) (fun c9 => ?_) (fun c9 => ?_)
    · have htb : tabN m = 6 := by rw [c9]; rfl
      refine tw_aload C dX8_writeAddress_44 4 rfl ?_
      refine tw_lload_n C dX8_writeAddress_46 2 rfl ?_
      refine tw_bipush C dX8_writeAddress_47 (v := nI 48) (by decide) ?_
      refine tw_lushr C dX8_writeAddress_49 (v := lN (f / 281474976710656)) (lN_ushr (by omega) 48 (by decide)) ?_
      refine tw_l2i C dX8_writeAddress_50 (v := nI (f / 281474976710656)) (lN_i32 _) ?_
      refine tw_callV (As := [.int (nI (f / 281474976710656))]) (rest := []) C N (e_X7_add hG hq (xs := ys) hy (x := f / 281474976710656)) mm_X7_add wd_357 rfl (hG _ (tw_row_lt hq).2) (tw_row_sh hq) rfl (by decide) rfl (Nat.le_of_ble_eq_true rfl) dX8_writeAddress_51 ?_
      rintro _ _ rfl
      show TW G X (tw_uR S q ((ys ++ [(f / 281474976710656) % 256]).take (tw_cap q))) [(6, .int (nI (tabN m))), (0, .int (nI m)), (1, .long (lN f)), (3, .long (lN l)), (5, .ref (tw_ad G q))] 54 []
      refine tw_aload C dX8_writeAddress_54 4 rfl ?_
      refine tw_lload_n C dX8_writeAddress_56 3 rfl ?_
      refine tw_iload C dX8_writeAddress_57 0 rfl ?_
      refine tw_iconst C dX8_writeAddress_59 (v := nI 1) (by decide) ?_
      refine tw_isub C dX8_writeAddress_60 (v := nI ((tabN m) - 1)) (pk_sub (by omega)) ?_
      refine tw_callV (As := [.long (lN l), .int (nI ((tabN m) - 1))]) (rest := []) C N (e_X7_addNumber hG hq (xs := (ys ++ [(f / 281474976710656) % 256]).take (tw_cap q)) (tq_uR_same _ _ _) (v := l) (i := (tabN m) - 1) (by omega) (by omega)) mm_X7_addNumber wd_361 rfl (hG _ (tw_row_lt hq).2) (tw_row_sh hq) rfl (by decide) rfl (Nat.le_of_ble_eq_true rfl) dX8_writeAddress_61 ?_
      rintro _ _ rfl
      show TW G X (tw_uR (tw_uR S q ((ys ++ [(f / 281474976710656) % 256]).take (tw_cap q))) q ((((ys ++ [(f / 281474976710656) % 256]).take (tw_cap q)) ++ be l ((tabN m) - 1)).take (tw_cap q))) [(6, .int (nI (tabN m))), (0, .int (nI m)), (1, .long (lN f)), (3, .long (lN l)), (5, .ref (tw_ad G q))] 64 []
      refine TW.sS (S' := tw_uR S q ((ys ++ [(f / 281474976710656) % 256] ++ be l ((tabN m) - 1)).take (tw_cap q))) (by rw [tw_uR_uR, tk_tk]) ?_
      refine tw_goto C dX8_writeAddress_64 (tgt := 75) (by decide) ?_
      exact tw_return (v := ()) C Q dX8_writeAddress_75 rfl rfl (by rw [sqAd, if_neg c1, if_pos (by omega)]; simp only [List.append_assoc, List.singleton_append, Nat.reducePow])
    · skip
      refine tw_iload_n C dX8_writeAddress_38 1 rfl ?_
      refine tw_bipush C dX8_writeAddress_39 (v := nI 10) (by decide) ?_
      refine tn_icmp_ne C dX8_writeAddress_41 (tgt := 67) (by decide) (by omega) (by omega) (fun c10 => ?_) (fun c10 => ?_)
      · have h8 := tabN_8 c1
        refine tw_aload C dX8_writeAddress_67 4 rfl ?_
        refine tw_lload_n C dX8_writeAddress_69 3 rfl ?_
        refine tw_iload C dX8_writeAddress_70 0 rfl ?_
        refine tw_callV (As := [.long (lN l), .int (nI (tabN m))]) (rest := []) C N (e_X7_addNumber hG hq (xs := ys) hy (v := l) (i := tabN m) (by omega) (by omega)) mm_X7_addNumber wd_361 rfl (hG _ (tw_row_lt hq).2) (tw_row_sh hq) rfl (by decide) rfl (Nat.le_of_ble_eq_true rfl) dX8_writeAddress_72 ?_
        rintro _ _ rfl
        show TW G X (tw_uR S q ((ys ++ be l (tabN m)).take (tw_cap q))) [(6, .int (nI (tabN m))), (0, .int (nI m)), (1, .long (lN f)), (3, .long (lN l)), (5, .ref (tw_ad G q))] 75 []
        exact tw_return (v := ()) C Q dX8_writeAddress_75 rfl rfl (by rw [sqAd, if_neg c1, if_neg (by omega)])
      · have htb : tabN m = 4 := by rw [c10]; rfl
        refine tw_aload C dX8_writeAddress_44 4 rfl ?_
        refine tw_lload_n C dX8_writeAddress_46 2 rfl ?_
        refine tw_bipush C dX8_writeAddress_47 (v := nI 48) (by decide) ?_
        refine tw_lushr C dX8_writeAddress_49 (v := lN (f / 281474976710656)) (lN_ushr (by omega) 48 (by decide)) ?_
        refine tw_l2i C dX8_writeAddress_50 (v := nI (f / 281474976710656)) (lN_i32 _) ?_
        refine tw_callV (As := [.int (nI (f / 281474976710656))]) (rest := []) C N (e_X7_add hG hq (xs := ys) hy (x := f / 281474976710656)) mm_X7_add wd_357 rfl (hG _ (tw_row_lt hq).2) (tw_row_sh hq) rfl (by decide) rfl (Nat.le_of_ble_eq_true rfl) dX8_writeAddress_51 ?_
        rintro _ _ rfl
        show TW G X (tw_uR S q ((ys ++ [(f / 281474976710656) % 256]).take (tw_cap q))) [(6, .int (nI (tabN m))), (0, .int (nI m)), (1, .long (lN f)), (3, .long (lN l)), (5, .ref (tw_ad G q))] 54 []
        refine tw_aload C dX8_writeAddress_54 4 rfl ?_
        refine tw_lload_n C dX8_writeAddress_56 3 rfl ?_
        refine tw_iload C dX8_writeAddress_57 0 rfl ?_
        refine tw_iconst C dX8_writeAddress_59 (v := nI 1) (by decide) ?_
        refine tw_isub C dX8_writeAddress_60 (v := nI ((tabN m) - 1)) (pk_sub (by omega)) ?_
        refine tw_callV (As := [.long (lN l), .int (nI ((tabN m) - 1))]) (rest := []) C N (e_X7_addNumber hG hq (xs := (ys ++ [(f / 281474976710656) % 256]).take (tw_cap q)) (tq_uR_same _ _ _) (v := l) (i := (tabN m) - 1) (by omega) (by omega)) mm_X7_addNumber wd_361 rfl (hG _ (tw_row_lt hq).2) (tw_row_sh hq) rfl (by decide) rfl (Nat.le_of_ble_eq_true rfl) dX8_writeAddress_61 ?_
        rintro _ _ rfl
        show TW G X (tw_uR (tw_uR S q ((ys ++ [(f / 281474976710656) % 256]).take (tw_cap q))) q ((((ys ++ [(f / 281474976710656) % 256]).take (tw_cap q)) ++ be l ((tabN m) - 1)).take (tw_cap q))) [(6, .int (nI (tabN m))), (0, .int (nI m)), (1, .long (lN f)), (3, .long (lN l)), (5, .ref (tw_ad G q))] 64 []
        refine TW.sS (S' := tw_uR S q ((ys ++ [(f / 281474976710656) % 256] ++ be l ((tabN m) - 1)).take (tw_cap q))) (by rw [tw_uR_uR, tk_tk]) ?_
        refine tw_goto C dX8_writeAddress_64 (tgt := 75) (by decide) ?_
        exact tw_return (v := ()) C Q dX8_writeAddress_75 rfl rfl (by rw [sqAd, if_neg c1, if_pos (by omega)]; simp only [List.append_assoc, List.singleton_append, Nat.reducePow])
  · skip
    refine tw_aload C dX8_writeAddress_13 4 rfl ?_
    refine tw_lload_n C dX8_writeAddress_15 2 rfl ?_
    refine tw_bipush C dX8_writeAddress_16 (v := nI 8) (by decide) ?_
    refine tw_callV (As := [.long (lN f), .int (nI 8)]) (rest := []) C N (e_X7_addNumber hG hq (xs := ys) hy (v := f) (i := 8) (by omega) (by omega)) mm_X7_addNumber wd_361 rfl (hG _ (tw_row_lt hq).2) (tw_row_sh hq) rfl (by decide) rfl (Nat.le_of_ble_eq_true rfl) dX8_writeAddress_18 ?_
    rintro _ _ rfl
    show TW G X (tw_uR S q ((ys ++ be f 8).take (tw_cap q))) [(6, .int (nI (tabN m))), (0, .int (nI m)), (1, .long (lN f)), (3, .long (lN l)), (5, .ref (tw_ad G q))] 21 []
    refine tw_aload C dX8_writeAddress_21 4 rfl ?_
    refine tw_lload_n C dX8_writeAddress_23 3 rfl ?_
    refine tw_bipush C dX8_writeAddress_24 (v := nI 8) (by decide) ?_
    refine tw_callV (As := [.long (lN l), .int (nI 8)]) (rest := []) C N (e_X7_addNumber hG hq (xs := (ys ++ be f 8).take (tw_cap q)) (tq_uR_same _ _ _) (v := l) (i := 8) (by omega) (by omega)) mm_X7_addNumber wd_361 rfl (hG _ (tw_row_lt hq).2) (tw_row_sh hq) rfl (by decide) rfl (Nat.le_of_ble_eq_true rfl) dX8_writeAddress_26 ?_
    rintro _ _ rfl
    show TW G X (tw_uR (tw_uR S q ((ys ++ be f 8).take (tw_cap q))) q ((((ys ++ be f 8).take (tw_cap q)) ++ be l 8).take (tw_cap q))) [(6, .int (nI (tabN m))), (0, .int (nI m)), (1, .long (lN f)), (3, .long (lN l)), (5, .ref (tw_ad G q))] 29 []
    refine TW.sS (S' := tw_uR S q ((ys ++ be f 8 ++ be l 8).take (tw_cap q))) (by rw [tw_uR_uR, tk_tk]) ?_
    refine tw_goto C dX8_writeAddress_29 (tgt := 75) (by decide) ?_
    exact tw_return (v := ()) C Q dX8_writeAddress_75 rfl rfl (by rw [sqAd, if_pos c1, List.append_assoc])
theorem m16_256 (a b : Nat) : (a % 16 * 16 + b % 16) % 256 = a % 16 * 16 + b % 16 := by omega
theorem c_X8_writePorts {G : tw_G} (hG : tw_cG G) {S : tw_S} {q : Nat} (hq : tw_isRow q = true) (hq1 : 1 ≠ q) {xs ys : List Nat} (hx : tw_R S 1 = xs) (hy : tw_R S q = ys) : tw_M G yX8_writePorts cX8_writePorts 4 none 2 46 [.ref (tw_ad G 1), .ref (tw_ad G q)] S ri_V (fun _ S' => S' = tw_uR S q ((ys ++ sqPo (nb xs 40 2) (nb xs 42 2) (nb xs 46 2)).take (tw_cap q))) := by
  refine tw_M.of (L := [(0, .ref (tw_ad G 1)), (1, .ref (tw_ad G q))]) (by decide) (Nat.le_of_ble_eq_true rfl) rfl (fun X C N Q => ?_)
  have C : tw_C G X cX8_writePorts RX8 := C
  refine TW.wf (fun hwf => ?_)
  obtain ⟨hlen, hby⟩ := hwf 1 (hG 1 (by decide)) tw_row1
  rw [hx] at hlen hby
  have hn40_2 := nb_lt hby 40 2
  simp only [Nat.reducePow] at hn40_2
  have hn42_2 := nb_lt hby 42 2
  simp only [Nat.reducePow] at hn42_2
  have hn46_2 := nb_lt hby 46 2
  simp only [Nat.reducePow] at hn46_2
  refine tw_aload_n C dX8_writePorts_0 0 rfl ?_
  refine tw_bipush C dX8_writePorts_1 (v := nI 40) (by decide) ?_
  refine tw_iconst C dX8_writePorts_3 (v := nI 2) (by decide) ?_
  refine tw_callV (As := [.int (nI 40), .int (nI 2)]) (rest := []) C N (e_X7_number hG tw_row1 (xs := xs) hx (f := 40) (i := 2) (by omega) (by omega)) mm_X7_number wd_318 rfl (hG 1 (by decide)) sh_1 rfl (by decide) rfl (Nat.le_of_ble_eq_true rfl) dX8_writePorts_4 ?_
  rintro _ _ ⟨rfl, rfl⟩
  show TW G X S [(0, .ref (tw_ad G 1)), (1, .ref (tw_ad G q))] 7 [.long (lN (nb xs 40 2))]
  refine tw_l2i C dX8_writePorts_7 (v := nI (nb xs 40 2)) (lN_i32 _) ?_
  refine tw_istore_n (L' := [(2, .int (nI (nb xs 40 2))), (0, .ref (tw_ad G 1)), (1, .ref (tw_ad G q))]) C N dX8_writePorts_8 rfl (by decide) rfl ?_
  refine tw_aload_n C dX8_writePorts_9 1 rfl ?_
  refine tw_bipush C dX8_writePorts_10 (v := nI 42) (by decide) ?_
  refine tw_iconst C dX8_writePorts_12 (v := nI 2) (by decide) ?_
  refine tw_callV (As := [.int (nI 42), .int (nI 2)]) (rest := []) C N (e_X7_number hG tw_row1 (xs := xs) hx (f := 42) (i := 2) (by omega) (by omega)) mm_X7_number wd_318 rfl (hG 1 (by decide)) sh_1 rfl (by decide) rfl (Nat.le_of_ble_eq_true rfl) dX8_writePorts_13 ?_
  rintro _ _ ⟨rfl, rfl⟩
  show TW G X S [(2, .int (nI (nb xs 40 2))), (0, .ref (tw_ad G 1)), (1, .ref (tw_ad G q))] 16 [.long (lN (nb xs 42 2))]
  refine tw_l2i C dX8_writePorts_16 (v := nI (nb xs 42 2)) (lN_i32 _) ?_
  refine tw_istore_n (L' := [(3, .int (nI (nb xs 42 2))), (2, .int (nI (nb xs 40 2))), (0, .ref (tw_ad G 1)), (1, .ref (tw_ad G q))]) C N dX8_writePorts_17 rfl (by decide) rfl ?_
  refine tw_iload_n C dX8_writePorts_18 1 rfl ?_
  refine tw_iconst C dX8_writePorts_19 (v := nI 4) (by decide) ?_
  refine tw_ishr C dX8_writePorts_20 (v := nI ((nb xs 40 2) / 16)) (nI_shr (by omega) 4 (by decide)) ?_
  refine tw_sipush C dX8_writePorts_21 (v := nI 3851) (by decide) ?_
  refine tn_icmp_ne C dX8_writePorts_24 (tgt := 61) (by decide) (by omega) (by omega) (fun c1 => ?_) (fun c1 => ?_)
  · skip
    refine tw_iload_n C dX8_writePorts_61 0 rfl ?_
    refine tw_bipush C dX8_writePorts_62 (v := nI 8) (by decide) ?_
    refine tw_ishr C dX8_writePorts_64 (v := nI ((nb xs 42 2) / 256)) (nI_shr (by omega) 8 (by decide)) ?_
    refine tw_sipush C dX8_writePorts_65 (v := nI 240) (by decide) ?_
    refine tn_icmp_ne C dX8_writePorts_68 (tgt := 93) (by decide) (by omega) (by omega) (fun c3 => ?_) (fun c3 => ?_)
    · skip
      refine tw_iload_n C dX8_writePorts_93 1 rfl ?_
      refine tw_bipush C dX8_writePorts_94 (v := nI 8) (by decide) ?_
      refine tw_ishr C dX8_writePorts_96 (v := nI ((nb xs 40 2) / 256)) (nI_shr (by omega) 8 (by decide)) ?_
      refine tw_sipush C dX8_writePorts_97 (v := nI 240) (by decide) ?_
      refine tn_icmp_ne C dX8_writePorts_100 (tgt := 125) (by decide) (by omega) (by omega) (fun c4 => ?_) (fun c4 => ?_)
      · skip
        refine tw_aload_n C dX8_writePorts_125 3 rfl ?_
        refine tw_sipush C dX8_writePorts_126 (v := nI 240) (by decide) ?_
        refine tw_callV (As := [.int (nI 240)]) (rest := []) C N (e_X7_add hG hq (xs := ys) hy (x := 240)) mm_X7_add wd_357 rfl (hG _ (tw_row_lt hq).2) (tw_row_sh hq) rfl (by decide) rfl (Nat.le_of_ble_eq_true rfl) dX8_writePorts_129 ?_
        rintro _ _ rfl
        show TW G X (tw_uR S q ((ys ++ [240 % 256]).take (tw_cap q))) [(3, .int (nI (nb xs 42 2))), (2, .int (nI (nb xs 40 2))), (0, .ref (tw_ad G 1)), (1, .ref (tw_ad G q))] 132 []
        refine tw_aload_n C dX8_writePorts_132 3 rfl ?_
        refine tw_iload_n C dX8_writePorts_133 1 rfl ?_
        refine tw_i2l C dX8_writePorts_134 (v := lN (nb xs 40 2)) (nI_i64 (by omega)) ?_
        refine tw_iconst C dX8_writePorts_135 (v := nI 2) (by decide) ?_
        refine tw_callV (As := [.long (lN (nb xs 40 2)), .int (nI 2)]) (rest := []) C N (e_X7_addNumber hG hq (xs := (ys ++ [240 % 256]).take (tw_cap q)) (tq_uR_same _ _ _) (v := nb xs 40 2) (i := 2) (by omega) (by omega)) mm_X7_addNumber wd_361 rfl (hG _ (tw_row_lt hq).2) (tw_row_sh hq) rfl (by decide) rfl (Nat.le_of_ble_eq_true rfl) dX8_writePorts_136 ?_
        rintro _ _ rfl
        show TW G X (tw_uR (tw_uR S q ((ys ++ [240 % 256]).take (tw_cap q))) q ((((ys ++ [240 % 256]).take (tw_cap q)) ++ be (nb xs 40 2) 2).take (tw_cap q))) [(3, .int (nI (nb xs 42 2))), (2, .int (nI (nb xs 40 2))), (0, .ref (tw_ad G 1)), (1, .ref (tw_ad G q))] 139 []
        refine TW.sS (S' := tw_uR S q ((ys ++ [240 % 256] ++ be (nb xs 40 2) 2).take (tw_cap q))) (by rw [tw_uR_uR, tk_tk]) ?_
        refine tw_aload_n C dX8_writePorts_139 3 rfl ?_
        refine tw_iload_n C dX8_writePorts_140 0 rfl ?_
        refine tw_i2l C dX8_writePorts_141 (v := lN (nb xs 42 2)) (nI_i64 (by omega)) ?_
        refine tw_iconst C dX8_writePorts_142 (v := nI 2) (by decide) ?_
        refine tw_callV (As := [.long (lN (nb xs 42 2)), .int (nI 2)]) (rest := []) C N (e_X7_addNumber hG hq (xs := (ys ++ [240 % 256] ++ be (nb xs 40 2) 2).take (tw_cap q)) (tq_uR_same _ _ _) (v := nb xs 42 2) (i := 2) (by omega) (by omega)) mm_X7_addNumber wd_361 rfl (hG _ (tw_row_lt hq).2) (tw_row_sh hq) rfl (by decide) rfl (Nat.le_of_ble_eq_true rfl) dX8_writePorts_143 ?_
        rintro _ _ rfl
        show TW G X (tw_uR (tw_uR S q ((ys ++ [240 % 256] ++ be (nb xs 40 2) 2).take (tw_cap q))) q ((((ys ++ [240 % 256] ++ be (nb xs 40 2) 2).take (tw_cap q)) ++ be (nb xs 42 2) 2).take (tw_cap q))) [(3, .int (nI (nb xs 42 2))), (2, .int (nI (nb xs 40 2))), (0, .ref (tw_ad G 1)), (1, .ref (tw_ad G q))] 146 []
        refine TW.sS (S' := tw_uR S q ((ys ++ [240 % 256] ++ be (nb xs 40 2) 2 ++ be (nb xs 42 2) 2).take (tw_cap q))) (by rw [tw_uR_uR, tk_tk]) ?_
        refine tw_aload_n C dX8_writePorts_146 3 rfl ?_
        refine tw_aload_n C dX8_writePorts_147 2 rfl ?_
        refine tw_bipush C dX8_writePorts_148 (v := nI 46) (by decide) ?_
        refine tw_iconst C dX8_writePorts_150 (v := nI 2) (by decide) ?_
        refine tw_callV (As := [.int (nI 46), .int (nI 2)]) (rest := [.ref (tw_ad G q)]) C N (e_X7_number hG tw_row1 (xs := xs) ((tq_uR_ne _ _ hq1).trans hx) (f := 46) (i := 2) (by omega) (by omega)) mm_X7_number wd_318 rfl (hG 1 (by decide)) sh_1 rfl (by decide) rfl (Nat.le_of_ble_eq_true rfl) dX8_writePorts_151 ?_
        rintro _ _ ⟨rfl, rfl⟩
        show TW G X (tw_uR S q ((ys ++ [240 % 256] ++ be (nb xs 40 2) 2 ++ be (nb xs 42 2) 2).take (tw_cap q))) [(3, .int (nI (nb xs 42 2))), (2, .int (nI (nb xs 40 2))), (0, .ref (tw_ad G 1)), (1, .ref (tw_ad G q))] 154 [.long (lN (nb xs 46 2)), .ref (tw_ad G q)]
        refine tw_iconst C dX8_writePorts_154 (v := nI 2) (by decide) ?_
        refine tw_callV (As := [.long (lN (nb xs 46 2)), .int (nI 2)]) (rest := []) C N (e_X7_addNumber hG hq (xs := (ys ++ [240 % 256] ++ be (nb xs 40 2) 2 ++ be (nb xs 42 2) 2).take (tw_cap q)) (tq_uR_same _ _ _) (v := nb xs 46 2) (i := 2) (by omega) (by omega)) mm_X7_addNumber wd_361 rfl (hG _ (tw_row_lt hq).2) (tw_row_sh hq) rfl (by decide) rfl (Nat.le_of_ble_eq_true rfl) dX8_writePorts_155 ?_
        rintro _ _ rfl
        show TW G X (tw_uR (tw_uR S q ((ys ++ [240 % 256] ++ be (nb xs 40 2) 2 ++ be (nb xs 42 2) 2).take (tw_cap q))) q ((((ys ++ [240 % 256] ++ be (nb xs 40 2) 2 ++ be (nb xs 42 2) 2).take (tw_cap q)) ++ be (nb xs 46 2) 2).take (tw_cap q))) [(3, .int (nI (nb xs 42 2))), (2, .int (nI (nb xs 40 2))), (0, .ref (tw_ad G 1)), (1, .ref (tw_ad G q))] 158 []
        refine TW.sS (S' := tw_uR S q ((ys ++ [240 % 256] ++ be (nb xs 40 2) 2 ++ be (nb xs 42 2) 2 ++ be (nb xs 46 2) 2).take (tw_cap q))) (by rw [tw_uR_uR, tk_tk]) ?_
        exact tw_return (v := ()) C Q dX8_writePorts_158 rfl rfl (by simp [sqPo, m16_256, *])
      · skip
        refine tw_aload_n C dX8_writePorts_103 3 rfl ?_
        refine tw_sipush C dX8_writePorts_104 (v := nI 242) (by decide) ?_
        refine tw_callV (As := [.int (nI 242)]) (rest := []) C N (e_X7_add hG hq (xs := ys) hy (x := 242)) mm_X7_add wd_357 rfl (hG _ (tw_row_lt hq).2) (tw_row_sh hq) rfl (by decide) rfl (Nat.le_of_ble_eq_true rfl) dX8_writePorts_107 ?_
        rintro _ _ rfl
        show TW G X (tw_uR S q ((ys ++ [242 % 256]).take (tw_cap q))) [(3, .int (nI (nb xs 42 2))), (2, .int (nI (nb xs 40 2))), (0, .ref (tw_ad G 1)), (1, .ref (tw_ad G q))] 110 []
        refine tw_aload_n C dX8_writePorts_110 3 rfl ?_
        refine tw_iload_n C dX8_writePorts_111 1 rfl ?_
        refine tw_callV (As := [.int (nI (nb xs 40 2))]) (rest := []) C N (e_X7_add hG hq (xs := (ys ++ [242 % 256]).take (tw_cap q)) (tq_uR_same _ _ _) (x := nb xs 40 2)) mm_X7_add wd_357 rfl (hG _ (tw_row_lt hq).2) (tw_row_sh hq) rfl (by decide) rfl (Nat.le_of_ble_eq_true rfl) dX8_writePorts_112 ?_
        rintro _ _ rfl
        show TW G X (tw_uR (tw_uR S q ((ys ++ [242 % 256]).take (tw_cap q))) q ((((ys ++ [242 % 256]).take (tw_cap q)) ++ [(nb xs 40 2) % 256]).take (tw_cap q))) [(3, .int (nI (nb xs 42 2))), (2, .int (nI (nb xs 40 2))), (0, .ref (tw_ad G 1)), (1, .ref (tw_ad G q))] 115 []
        refine TW.sS (S' := tw_uR S q ((ys ++ [242 % 256] ++ [(nb xs 40 2) % 256]).take (tw_cap q))) (by rw [tw_uR_uR, tk_tk]) ?_
        refine tw_aload_n C dX8_writePorts_115 3 rfl ?_
        refine tw_iload_n C dX8_writePorts_116 0 rfl ?_
        refine tw_i2l C dX8_writePorts_117 (v := lN (nb xs 42 2)) (nI_i64 (by omega)) ?_
        refine tw_iconst C dX8_writePorts_118 (v := nI 2) (by decide) ?_
        refine tw_callV (As := [.long (lN (nb xs 42 2)), .int (nI 2)]) (rest := []) C N (e_X7_addNumber hG hq (xs := (ys ++ [242 % 256] ++ [(nb xs 40 2) % 256]).take (tw_cap q)) (tq_uR_same _ _ _) (v := nb xs 42 2) (i := 2) (by omega) (by omega)) mm_X7_addNumber wd_361 rfl (hG _ (tw_row_lt hq).2) (tw_row_sh hq) rfl (by decide) rfl (Nat.le_of_ble_eq_true rfl) dX8_writePorts_119 ?_
        rintro _ _ rfl
        show TW G X (tw_uR (tw_uR S q ((ys ++ [242 % 256] ++ [(nb xs 40 2) % 256]).take (tw_cap q))) q ((((ys ++ [242 % 256] ++ [(nb xs 40 2) % 256]).take (tw_cap q)) ++ be (nb xs 42 2) 2).take (tw_cap q))) [(3, .int (nI (nb xs 42 2))), (2, .int (nI (nb xs 40 2))), (0, .ref (tw_ad G 1)), (1, .ref (tw_ad G q))] 122 []
        refine TW.sS (S' := tw_uR S q ((ys ++ [242 % 256] ++ [(nb xs 40 2) % 256] ++ be (nb xs 42 2) 2).take (tw_cap q))) (by rw [tw_uR_uR, tk_tk]) ?_
        refine tw_goto C dX8_writePorts_122 (tgt := 146) (by decide) ?_
        refine tw_aload_n C dX8_writePorts_146 3 rfl ?_
        refine tw_aload_n C dX8_writePorts_147 2 rfl ?_
        refine tw_bipush C dX8_writePorts_148 (v := nI 46) (by decide) ?_
        refine tw_iconst C dX8_writePorts_150 (v := nI 2) (by decide) ?_
        refine tw_callV (As := [.int (nI 46), .int (nI 2)]) (rest := [.ref (tw_ad G q)]) C N (e_X7_number hG tw_row1 (xs := xs) ((tq_uR_ne _ _ hq1).trans hx) (f := 46) (i := 2) (by omega) (by omega)) mm_X7_number wd_318 rfl (hG 1 (by decide)) sh_1 rfl (by decide) rfl (Nat.le_of_ble_eq_true rfl) dX8_writePorts_151 ?_
        rintro _ _ ⟨rfl, rfl⟩
        show TW G X (tw_uR S q ((ys ++ [242 % 256] ++ [(nb xs 40 2) % 256] ++ be (nb xs 42 2) 2).take (tw_cap q))) [(3, .int (nI (nb xs 42 2))), (2, .int (nI (nb xs 40 2))), (0, .ref (tw_ad G 1)), (1, .ref (tw_ad G q))] 154 [.long (lN (nb xs 46 2)), .ref (tw_ad G q)]
        refine tw_iconst C dX8_writePorts_154 (v := nI 2) (by decide) ?_
        refine tw_callV (As := [.long (lN (nb xs 46 2)), .int (nI 2)]) (rest := []) C N (e_X7_addNumber hG hq (xs := (ys ++ [242 % 256] ++ [(nb xs 40 2) % 256] ++ be (nb xs 42 2) 2).take (tw_cap q)) (tq_uR_same _ _ _) (v := nb xs 46 2) (i := 2) (by omega) (by omega)) mm_X7_addNumber wd_361 rfl (hG _ (tw_row_lt hq).2) (tw_row_sh hq) rfl (by decide) rfl (Nat.le_of_ble_eq_true rfl) dX8_writePorts_155 ?_
        rintro _ _ rfl
        show TW G X (tw_uR (tw_uR S q ((ys ++ [242 % 256] ++ [(nb xs 40 2) % 256] ++ be (nb xs 42 2) 2).take (tw_cap q))) q ((((ys ++ [242 % 256] ++ [(nb xs 40 2) % 256] ++ be (nb xs 42 2) 2).take (tw_cap q)) ++ be (nb xs 46 2) 2).take (tw_cap q))) [(3, .int (nI (nb xs 42 2))), (2, .int (nI (nb xs 40 2))), (0, .ref (tw_ad G 1)), (1, .ref (tw_ad G q))] 158 []
        refine TW.sS (S' := tw_uR S q ((ys ++ [242 % 256] ++ [(nb xs 40 2) % 256] ++ be (nb xs 42 2) 2 ++ be (nb xs 46 2) 2).take (tw_cap q))) (by rw [tw_uR_uR, tk_tk]) ?_
        exact tw_return (v := ()) C Q dX8_writePorts_158 rfl rfl (by simp [sqPo, m16_256, *])
    · skip
      refine tw_aload_n C dX8_writePorts_71 3 rfl ?_
      refine tw_sipush C dX8_writePorts_72 (v := nI 241) (by decide) ?_
      refine tw_callV (As := [.int (nI 241)]) (rest := []) C N (e_X7_add hG hq (xs := ys) hy (x := 241)) mm_X7_add wd_357 rfl (hG _ (tw_row_lt hq).2) (tw_row_sh hq) rfl (by decide) rfl (Nat.le_of_ble_eq_true rfl) dX8_writePorts_75 ?_
      rintro _ _ rfl
      show TW G X (tw_uR S q ((ys ++ [241 % 256]).take (tw_cap q))) [(3, .int (nI (nb xs 42 2))), (2, .int (nI (nb xs 40 2))), (0, .ref (tw_ad G 1)), (1, .ref (tw_ad G q))] 78 []
      refine tw_aload_n C dX8_writePorts_78 3 rfl ?_
      refine tw_iload_n C dX8_writePorts_79 1 rfl ?_
      refine tw_i2l C dX8_writePorts_80 (v := lN (nb xs 40 2)) (nI_i64 (by omega)) ?_
      refine tw_iconst C dX8_writePorts_81 (v := nI 2) (by decide) ?_
      refine tw_callV (As := [.long (lN (nb xs 40 2)), .int (nI 2)]) (rest := []) C N (e_X7_addNumber hG hq (xs := (ys ++ [241 % 256]).take (tw_cap q)) (tq_uR_same _ _ _) (v := nb xs 40 2) (i := 2) (by omega) (by omega)) mm_X7_addNumber wd_361 rfl (hG _ (tw_row_lt hq).2) (tw_row_sh hq) rfl (by decide) rfl (Nat.le_of_ble_eq_true rfl) dX8_writePorts_82 ?_
      rintro _ _ rfl
      show TW G X (tw_uR (tw_uR S q ((ys ++ [241 % 256]).take (tw_cap q))) q ((((ys ++ [241 % 256]).take (tw_cap q)) ++ be (nb xs 40 2) 2).take (tw_cap q))) [(3, .int (nI (nb xs 42 2))), (2, .int (nI (nb xs 40 2))), (0, .ref (tw_ad G 1)), (1, .ref (tw_ad G q))] 85 []
      refine TW.sS (S' := tw_uR S q ((ys ++ [241 % 256] ++ be (nb xs 40 2) 2).take (tw_cap q))) (by rw [tw_uR_uR, tk_tk]) ?_
      refine tw_aload_n C dX8_writePorts_85 3 rfl ?_
      refine tw_iload_n C dX8_writePorts_86 0 rfl ?_
      refine tw_callV (As := [.int (nI (nb xs 42 2))]) (rest := []) C N (e_X7_add hG hq (xs := (ys ++ [241 % 256] ++ be (nb xs 40 2) 2).take (tw_cap q)) (tq_uR_same _ _ _) (x := nb xs 42 2)) mm_X7_add wd_357 rfl (hG _ (tw_row_lt hq).2) (tw_row_sh hq) rfl (by decide) rfl (Nat.le_of_ble_eq_true rfl) dX8_writePorts_87 ?_
      rintro _ _ rfl
      show TW G X (tw_uR (tw_uR S q ((ys ++ [241 % 256] ++ be (nb xs 40 2) 2).take (tw_cap q))) q ((((ys ++ [241 % 256] ++ be (nb xs 40 2) 2).take (tw_cap q)) ++ [(nb xs 42 2) % 256]).take (tw_cap q))) [(3, .int (nI (nb xs 42 2))), (2, .int (nI (nb xs 40 2))), (0, .ref (tw_ad G 1)), (1, .ref (tw_ad G q))] 90 []
      refine TW.sS (S' := tw_uR S q ((ys ++ [241 % 256] ++ be (nb xs 40 2) 2 ++ [(nb xs 42 2) % 256]).take (tw_cap q))) (by rw [tw_uR_uR, tk_tk]) ?_
      refine tw_goto C dX8_writePorts_90 (tgt := 146) (by decide) ?_
      refine tw_aload_n C dX8_writePorts_146 3 rfl ?_
      refine tw_aload_n C dX8_writePorts_147 2 rfl ?_
      refine tw_bipush C dX8_writePorts_148 (v := nI 46) (by decide) ?_
      refine tw_iconst C dX8_writePorts_150 (v := nI 2) (by decide) ?_
      refine tw_callV (As := [.int (nI 46), .int (nI 2)]) (rest := [.ref (tw_ad G q)]) C N (e_X7_number hG tw_row1 (xs := xs) ((tq_uR_ne _ _ hq1).trans hx) (f := 46) (i := 2) (by omega) (by omega)) mm_X7_number wd_318 rfl (hG 1 (by decide)) sh_1 rfl (by decide) rfl (Nat.le_of_ble_eq_true rfl) dX8_writePorts_151 ?_
      rintro _ _ ⟨rfl, rfl⟩
      show TW G X (tw_uR S q ((ys ++ [241 % 256] ++ be (nb xs 40 2) 2 ++ [(nb xs 42 2) % 256]).take (tw_cap q))) [(3, .int (nI (nb xs 42 2))), (2, .int (nI (nb xs 40 2))), (0, .ref (tw_ad G 1)), (1, .ref (tw_ad G q))] 154 [.long (lN (nb xs 46 2)), .ref (tw_ad G q)]
      refine tw_iconst C dX8_writePorts_154 (v := nI 2) (by decide) ?_
      refine tw_callV (As := [.long (lN (nb xs 46 2)), .int (nI 2)]) (rest := []) C N (e_X7_addNumber hG hq (xs := (ys ++ [241 % 256] ++ be (nb xs 40 2) 2 ++ [(nb xs 42 2) % 256]).take (tw_cap q)) (tq_uR_same _ _ _) (v := nb xs 46 2) (i := 2) (by omega) (by omega)) mm_X7_addNumber wd_361 rfl (hG _ (tw_row_lt hq).2) (tw_row_sh hq) rfl (by decide) rfl (Nat.le_of_ble_eq_true rfl) dX8_writePorts_155 ?_
      rintro _ _ rfl
      show TW G X (tw_uR (tw_uR S q ((ys ++ [241 % 256] ++ be (nb xs 40 2) 2 ++ [(nb xs 42 2) % 256]).take (tw_cap q))) q ((((ys ++ [241 % 256] ++ be (nb xs 40 2) 2 ++ [(nb xs 42 2) % 256]).take (tw_cap q)) ++ be (nb xs 46 2) 2).take (tw_cap q))) [(3, .int (nI (nb xs 42 2))), (2, .int (nI (nb xs 40 2))), (0, .ref (tw_ad G 1)), (1, .ref (tw_ad G q))] 158 []
      refine TW.sS (S' := tw_uR S q ((ys ++ [241 % 256] ++ be (nb xs 40 2) 2 ++ [(nb xs 42 2) % 256] ++ be (nb xs 46 2) 2).take (tw_cap q))) (by rw [tw_uR_uR, tk_tk]) ?_
      exact tw_return (v := ()) C Q dX8_writePorts_158 rfl rfl (by simp [sqPo, m16_256, *])
  · skip
    refine tw_iload_n C dX8_writePorts_27 0 rfl ?_
    refine tw_iconst C dX8_writePorts_28 (v := nI 4) (by decide) ?_
    refine tw_ishr C dX8_writePorts_29 (v := nI ((nb xs 42 2) / 16)) (nI_shr (by omega) 4 (by decide)) ?_
    refine tw_sipush C dX8_writePorts_30 (v := nI 3851) (by decide) ?_
    refine tn_icmp_ne C dX8_writePorts_33 (tgt := 61) (by decide) (by omega) (by omega) (fun c2 => ?_) (fun c2 => ?_)
    · skip
      refine tw_iload_n C dX8_writePorts_61 0 rfl ?_
      refine tw_bipush C dX8_writePorts_62 (v := nI 8) (by decide) ?_
      refine tw_ishr C dX8_writePorts_64 (v := nI ((nb xs 42 2) / 256)) (nI_shr (by omega) 8 (by decide)) ?_
      refine tw_sipush C dX8_writePorts_65 (v := nI 240) (by decide) ?_
      refine tn_icmp_ne C dX8_writePorts_68 (tgt := 93) (by decide) (by omega) (by omega) (fun c3 => ?_) (fun c3 => ?_)
      · skip
        refine tw_iload_n C dX8_writePorts_93 1 rfl ?_
        refine tw_bipush C dX8_writePorts_94 (v := nI 8) (by decide) ?_
        refine tw_ishr C dX8_writePorts_96 (v := nI ((nb xs 40 2) / 256)) (nI_shr (by omega) 8 (by decide)) ?_
        refine tw_sipush C dX8_writePorts_97 (v := nI 240) (by decide) ?_
        refine tn_icmp_ne C dX8_writePorts_100 (tgt := 125) (by decide) (by omega) (by omega) (fun c4 => ?_) (fun c4 => ?_)
        · skip
          refine tw_aload_n C dX8_writePorts_125 3 rfl ?_
          refine tw_sipush C dX8_writePorts_126 (v := nI 240) (by decide) ?_
          refine tw_callV (As := [.int (nI 240)]) (rest := []) C N (e_X7_add hG hq (xs := ys) hy (x := 240)) mm_X7_add wd_357 rfl (hG _ (tw_row_lt hq).2) (tw_row_sh hq) rfl (by decide) rfl (Nat.le_of_ble_eq_true rfl) dX8_writePorts_129 ?_
          rintro _ _ rfl
          show TW G X (tw_uR S q ((ys ++ [240 % 256]).take (tw_cap q))) [(3, .int (nI (nb xs 42 2))), (2, .int (nI (nb xs 40 2))), (0, .ref (tw_ad G 1)), (1, .ref (tw_ad G q))] 132 []
          refine tw_aload_n C dX8_writePorts_132 3 rfl ?_
          refine tw_iload_n C dX8_writePorts_133 1 rfl ?_
          refine tw_i2l C dX8_writePorts_134 (v := lN (nb xs 40 2)) (nI_i64 (by omega)) ?_
          refine tw_iconst C dX8_writePorts_135 (v := nI 2) (by decide) ?_
          refine tw_callV (As := [.long (lN (nb xs 40 2)), .int (nI 2)]) (rest := []) C N (e_X7_addNumber hG hq (xs := (ys ++ [240 % 256]).take (tw_cap q)) (tq_uR_same _ _ _) (v := nb xs 40 2) (i := 2) (by omega) (by omega)) mm_X7_addNumber wd_361 rfl (hG _ (tw_row_lt hq).2) (tw_row_sh hq) rfl (by decide) rfl (Nat.le_of_ble_eq_true rfl) dX8_writePorts_136 ?_
          rintro _ _ rfl
          show TW G X (tw_uR (tw_uR S q ((ys ++ [240 % 256]).take (tw_cap q))) q ((((ys ++ [240 % 256]).take (tw_cap q)) ++ be (nb xs 40 2) 2).take (tw_cap q))) [(3, .int (nI (nb xs 42 2))), (2, .int (nI (nb xs 40 2))), (0, .ref (tw_ad G 1)), (1, .ref (tw_ad G q))] 139 []
          refine TW.sS (S' := tw_uR S q ((ys ++ [240 % 256] ++ be (nb xs 40 2) 2).take (tw_cap q))) (by rw [tw_uR_uR, tk_tk]) ?_
          refine tw_aload_n C dX8_writePorts_139 3 rfl ?_
          refine tw_iload_n C dX8_writePorts_140 0 rfl ?_
          refine tw_i2l C dX8_writePorts_141 (v := lN (nb xs 42 2)) (nI_i64 (by omega)) ?_
          refine tw_iconst C dX8_writePorts_142 (v := nI 2) (by decide) ?_
          refine tw_callV (As := [.long (lN (nb xs 42 2)), .int (nI 2)]) (rest := []) C N (e_X7_addNumber hG hq (xs := (ys ++ [240 % 256] ++ be (nb xs 40 2) 2).take (tw_cap q)) (tq_uR_same _ _ _) (v := nb xs 42 2) (i := 2) (by omega) (by omega)) mm_X7_addNumber wd_361 rfl (hG _ (tw_row_lt hq).2) (tw_row_sh hq) rfl (by decide) rfl (Nat.le_of_ble_eq_true rfl) dX8_writePorts_143 ?_
          rintro _ _ rfl
          show TW G X (tw_uR (tw_uR S q ((ys ++ [240 % 256] ++ be (nb xs 40 2) 2).take (tw_cap q))) q ((((ys ++ [240 % 256] ++ be (nb xs 40 2) 2).take (tw_cap q)) ++ be (nb xs 42 2) 2).take (tw_cap q))) [(3, .int (nI (nb xs 42 2))), (2, .int (nI (nb xs 40 2))), (0, .ref (tw_ad G 1)), (1, .ref (tw_ad G q))] 146 []
          refine TW.sS (S' := tw_uR S q ((ys ++ [240 % 256] ++ be (nb xs 40 2) 2 ++ be (nb xs 42 2) 2).take (tw_cap q))) (by rw [tw_uR_uR, tk_tk]) ?_
          refine tw_aload_n C dX8_writePorts_146 3 rfl ?_
          refine tw_aload_n C dX8_writePorts_147 2 rfl ?_
          refine tw_bipush C dX8_writePorts_148 (v := nI 46) (by decide) ?_
          refine tw_iconst C dX8_writePorts_150 (v := nI 2) (by decide) ?_
          refine tw_callV (As := [.int (nI 46), .int (nI 2)]) (rest := [.ref (tw_ad G q)]) C N (e_X7_number hG tw_row1 (xs := xs) ((tq_uR_ne _ _ hq1).trans hx) (f := 46) (i := 2) (by omega) (by omega)) mm_X7_number wd_318 rfl (hG 1 (by decide)) sh_1 rfl (by decide) rfl (Nat.le_of_ble_eq_true rfl) dX8_writePorts_151 ?_
          rintro _ _ ⟨rfl, rfl⟩
          show TW G X (tw_uR S q ((ys ++ [240 % 256] ++ be (nb xs 40 2) 2 ++ be (nb xs 42 2) 2).take (tw_cap q))) [(3, .int (nI (nb xs 42 2))), (2, .int (nI (nb xs 40 2))), (0, .ref (tw_ad G 1)), (1, .ref (tw_ad G q))] 154 [.long (lN (nb xs 46 2)), .ref (tw_ad G q)]
          refine tw_iconst C dX8_writePorts_154 (v := nI 2) (by decide) ?_
          refine tw_callV (As := [.long (lN (nb xs 46 2)), .int (nI 2)]) (rest := []) C N (e_X7_addNumber hG hq (xs := (ys ++ [240 % 256] ++ be (nb xs 40 2) 2 ++ be (nb xs 42 2) 2).take (tw_cap q)) (tq_uR_same _ _ _) (v := nb xs 46 2) (i := 2) (by omega) (by omega)) mm_X7_addNumber wd_361 rfl (hG _ (tw_row_lt hq).2) (tw_row_sh hq) rfl (by decide) rfl (Nat.le_of_ble_eq_true rfl) dX8_writePorts_155 ?_
          rintro _ _ rfl
          show TW G X (tw_uR (tw_uR S q ((ys ++ [240 % 256] ++ be (nb xs 40 2) 2 ++ be (nb xs 42 2) 2).take (tw_cap q))) q ((((ys ++ [240 % 256] ++ be (nb xs 40 2) 2 ++ be (nb xs 42 2) 2).take (tw_cap q)) ++ be (nb xs 46 2) 2).take (tw_cap q))) [(3, .int (nI (nb xs 42 2))), (2, .int (nI (nb xs 40 2))), (0, .ref (tw_ad G 1)), (1, .ref (tw_ad G q))] 158 []
          refine TW.sS (S' := tw_uR S q ((ys ++ [240 % 256] ++ be (nb xs 40 2) 2 ++ be (nb xs 42 2) 2 ++ be (nb xs 46 2) 2).take (tw_cap q))) (by rw [tw_uR_uR, tk_tk]) ?_
          exact tw_return (v := ()) C Q dX8_writePorts_158 rfl rfl (by simp [sqPo, m16_256, *])
        · skip
          refine tw_aload_n C dX8_writePorts_103 3 rfl ?_
          refine tw_sipush C dX8_writePorts_104 (v := nI 242) (by decide) ?_
          refine tw_callV (As := [.int (nI 242)]) (rest := []) C N (e_X7_add hG hq (xs := ys) hy (x := 242)) mm_X7_add wd_357 rfl (hG _ (tw_row_lt hq).2) (tw_row_sh hq) rfl (by decide) rfl (Nat.le_of_ble_eq_true rfl) dX8_writePorts_107 ?_
          rintro _ _ rfl
          show TW G X (tw_uR S q ((ys ++ [242 % 256]).take (tw_cap q))) [(3, .int (nI (nb xs 42 2))), (2, .int (nI (nb xs 40 2))), (0, .ref (tw_ad G 1)), (1, .ref (tw_ad G q))] 110 []
          refine tw_aload_n C dX8_writePorts_110 3 rfl ?_
          refine tw_iload_n C dX8_writePorts_111 1 rfl ?_
          refine tw_callV (As := [.int (nI (nb xs 40 2))]) (rest := []) C N (e_X7_add hG hq (xs := (ys ++ [242 % 256]).take (tw_cap q)) (tq_uR_same _ _ _) (x := nb xs 40 2)) mm_X7_add wd_357 rfl (hG _ (tw_row_lt hq).2) (tw_row_sh hq) rfl (by decide) rfl (Nat.le_of_ble_eq_true rfl) dX8_writePorts_112 ?_
          rintro _ _ rfl
          show TW G X (tw_uR (tw_uR S q ((ys ++ [242 % 256]).take (tw_cap q))) q ((((ys ++ [242 % 256]).take (tw_cap q)) ++ [(nb xs 40 2) % 256]).take (tw_cap q))) [(3, .int (nI (nb xs 42 2))), (2, .int (nI (nb xs 40 2))), (0, .ref (tw_ad G 1)), (1, .ref (tw_ad G q))] 115 []
          refine TW.sS (S' := tw_uR S q ((ys ++ [242 % 256] ++ [(nb xs 40 2) % 256]).take (tw_cap q))) (by rw [tw_uR_uR, tk_tk]) ?_
          refine tw_aload_n C dX8_writePorts_115 3 rfl ?_
          refine tw_iload_n C dX8_writePorts_116 0 rfl ?_
          refine tw_i2l C dX8_writePorts_117 (v := lN (nb xs 42 2)) (nI_i64 (by omega)) ?_
          refine tw_iconst C dX8_writePorts_118 (v := nI 2) (by decide) ?_
          refine tw_callV (As := [.long (lN (nb xs 42 2)), .int (nI 2)]) (rest := []) C N (e_X7_addNumber hG hq (xs := (ys ++ [242 % 256] ++ [(nb xs 40 2) % 256]).take (tw_cap q)) (tq_uR_same _ _ _) (v := nb xs 42 2) (i := 2) (by omega) (by omega)) mm_X7_addNumber wd_361 rfl (hG _ (tw_row_lt hq).2) (tw_row_sh hq) rfl (by decide) rfl (Nat.le_of_ble_eq_true rfl) dX8_writePorts_119 ?_
          rintro _ _ rfl
          show TW G X (tw_uR (tw_uR S q ((ys ++ [242 % 256] ++ [(nb xs 40 2) % 256]).take (tw_cap q))) q ((((ys ++ [242 % 256] ++ [(nb xs 40 2) % 256]).take (tw_cap q)) ++ be (nb xs 42 2) 2).take (tw_cap q))) [(3, .int (nI (nb xs 42 2))), (2, .int (nI (nb xs 40 2))), (0, .ref (tw_ad G 1)), (1, .ref (tw_ad G q))] 122 []
          refine TW.sS (S' := tw_uR S q ((ys ++ [242 % 256] ++ [(nb xs 40 2) % 256] ++ be (nb xs 42 2) 2).take (tw_cap q))) (by rw [tw_uR_uR, tk_tk]) ?_
          refine tw_goto C dX8_writePorts_122 (tgt := 146) (by decide) ?_
          refine tw_aload_n C dX8_writePorts_146 3 rfl ?_
          refine tw_aload_n C dX8_writePorts_147 2 rfl ?_
          refine tw_bipush C dX8_writePorts_148 (v := nI 46) (by decide) ?_
          refine tw_iconst C dX8_writePorts_150 (v := nI 2) (by decide) ?_
          refine tw_callV (As := [.int (nI 46), .int (nI 2)]) (rest := [.ref (tw_ad G q)]) C N (e_X7_number hG tw_row1 (xs := xs) ((tq_uR_ne _ _ hq1).trans hx) (f := 46) (i := 2) (by omega) (by omega)) mm_X7_number wd_318 rfl (hG 1 (by decide)) sh_1 rfl (by decide) rfl (Nat.le_of_ble_eq_true rfl) dX8_writePorts_151 ?_
          rintro _ _ ⟨rfl, rfl⟩
          show TW G X (tw_uR S q ((ys ++ [242 % 256] ++ [(nb xs 40 2) % 256] ++ be (nb xs 42 2) 2).take (tw_cap q))) [(3, .int (nI (nb xs 42 2))), (2, .int (nI (nb xs 40 2))), (0, .ref (tw_ad G 1)), (1, .ref (tw_ad G q))] 154 [.long (lN (nb xs 46 2)), .ref (tw_ad G q)]
          refine tw_iconst C dX8_writePorts_154 (v := nI 2) (by decide) ?_
          refine tw_callV (As := [.long (lN (nb xs 46 2)), .int (nI 2)]) (rest := []) C N (e_X7_addNumber hG hq (xs := (ys ++ [242 % 256] ++ [(nb xs 40 2) % 256] ++ be (nb xs 42 2) 2).take (tw_cap q)) (tq_uR_same _ _ _) (v := nb xs 46 2) (i := 2) (by omega) (by omega)) mm_X7_addNumber wd_361 rfl (hG _ (tw_row_lt hq).2) (tw_row_sh hq) rfl (by decide) rfl (Nat.le_of_ble_eq_true rfl) dX8_writePorts_155 ?_
          rintro _ _ rfl
          show TW G X (tw_uR (tw_uR S q ((ys ++ [242 % 256] ++ [(nb xs 40 2) % 256] ++ be (nb xs 42 2) 2).take (tw_cap q))) q ((((ys ++ [242 % 256] ++ [(nb xs 40 2) % 256] ++ be (nb xs 42 2) 2).take (tw_cap q)) ++ be (nb xs 46 2) 2).take (tw_cap q))) [(3, .int (nI (nb xs 42 2))), (2, .int (nI (nb xs 40 2))), (0, .ref (tw_ad G 1)), (1, .ref (tw_ad G q))] 158 []
          refine TW.sS (S' := tw_uR S q ((ys ++ [242 % 256] ++ [(nb xs 40 2) % 256] ++ be (nb xs 42 2) 2 ++ be (nb xs 46 2) 2).take (tw_cap q))) (by rw [tw_uR_uR, tk_tk]) ?_
          exact tw_return (v := ()) C Q dX8_writePorts_158 rfl rfl (by simp [sqPo, m16_256, *])
      · skip
        refine tw_aload_n C dX8_writePorts_71 3 rfl ?_
        refine tw_sipush C dX8_writePorts_72 (v := nI 241) (by decide) ?_
        refine tw_callV (As := [.int (nI 241)]) (rest := []) C N (e_X7_add hG hq (xs := ys) hy (x := 241)) mm_X7_add wd_357 rfl (hG _ (tw_row_lt hq).2) (tw_row_sh hq) rfl (by decide) rfl (Nat.le_of_ble_eq_true rfl) dX8_writePorts_75 ?_
        rintro _ _ rfl
        show TW G X (tw_uR S q ((ys ++ [241 % 256]).take (tw_cap q))) [(3, .int (nI (nb xs 42 2))), (2, .int (nI (nb xs 40 2))), (0, .ref (tw_ad G 1)), (1, .ref (tw_ad G q))] 78 []
        refine tw_aload_n C dX8_writePorts_78 3 rfl ?_
        refine tw_iload_n C dX8_writePorts_79 1 rfl ?_
        refine tw_i2l C dX8_writePorts_80 (v := lN (nb xs 40 2)) (nI_i64 (by omega)) ?_
        refine tw_iconst C dX8_writePorts_81 (v := nI 2) (by decide) ?_
        refine tw_callV (As := [.long (lN (nb xs 40 2)), .int (nI 2)]) (rest := []) C N (e_X7_addNumber hG hq (xs := (ys ++ [241 % 256]).take (tw_cap q)) (tq_uR_same _ _ _) (v := nb xs 40 2) (i := 2) (by omega) (by omega)) mm_X7_addNumber wd_361 rfl (hG _ (tw_row_lt hq).2) (tw_row_sh hq) rfl (by decide) rfl (Nat.le_of_ble_eq_true rfl) dX8_writePorts_82 ?_
        rintro _ _ rfl
        show TW G X (tw_uR (tw_uR S q ((ys ++ [241 % 256]).take (tw_cap q))) q ((((ys ++ [241 % 256]).take (tw_cap q)) ++ be (nb xs 40 2) 2).take (tw_cap q))) [(3, .int (nI (nb xs 42 2))), (2, .int (nI (nb xs 40 2))), (0, .ref (tw_ad G 1)), (1, .ref (tw_ad G q))] 85 []
        refine TW.sS (S' := tw_uR S q ((ys ++ [241 % 256] ++ be (nb xs 40 2) 2).take (tw_cap q))) (by rw [tw_uR_uR, tk_tk]) ?_
        refine tw_aload_n C dX8_writePorts_85 3 rfl ?_
        refine tw_iload_n C dX8_writePorts_86 0 rfl ?_
        refine tw_callV (As := [.int (nI (nb xs 42 2))]) (rest := []) C N (e_X7_add hG hq (xs := (ys ++ [241 % 256] ++ be (nb xs 40 2) 2).take (tw_cap q)) (tq_uR_same _ _ _) (x := nb xs 42 2)) mm_X7_add wd_357 rfl (hG _ (tw_row_lt hq).2) (tw_row_sh hq) rfl (by decide) rfl (Nat.le_of_ble_eq_true rfl) dX8_writePorts_87 ?_
        rintro _ _ rfl
        show TW G X (tw_uR (tw_uR S q ((ys ++ [241 % 256] ++ be (nb xs 40 2) 2).take (tw_cap q))) q ((((ys ++ [241 % 256] ++ be (nb xs 40 2) 2).take (tw_cap q)) ++ [(nb xs 42 2) % 256]).take (tw_cap q))) [(3, .int (nI (nb xs 42 2))), (2, .int (nI (nb xs 40 2))), (0, .ref (tw_ad G 1)), (1, .ref (tw_ad G q))] 90 []
        refine TW.sS (S' := tw_uR S q ((ys ++ [241 % 256] ++ be (nb xs 40 2) 2 ++ [(nb xs 42 2) % 256]).take (tw_cap q))) (by rw [tw_uR_uR, tk_tk]) ?_
        refine tw_goto C dX8_writePorts_90 (tgt := 146) (by decide) ?_
        refine tw_aload_n C dX8_writePorts_146 3 rfl ?_
        refine tw_aload_n C dX8_writePorts_147 2 rfl ?_
        refine tw_bipush C dX8_writePorts_148 (v := nI 46) (by decide) ?_
        refine tw_iconst C dX8_writePorts_150 (v := nI 2) (by decide) ?_
        refine tw_callV (As := [.int (nI 46), .int (nI 2)]) (rest := [.ref (tw_ad G q)]) C N (e_X7_number hG tw_row1 (xs := xs) ((tq_uR_ne _ _ hq1).trans hx) (f := 46) (i := 2) (by omega) (by omega)) mm_X7_number wd_318 rfl (hG 1 (by decide)) sh_1 rfl (by decide) rfl (Nat.le_of_ble_eq_true rfl) dX8_writePorts_151 ?_
        rintro _ _ ⟨rfl, rfl⟩
        show TW G X (tw_uR S q ((ys ++ [241 % 256] ++ be (nb xs 40 2) 2 ++ [(nb xs 42 2) % 256]).take (tw_cap q))) [(3, .int (nI (nb xs 42 2))), (2, .int (nI (nb xs 40 2))), (0, .ref (tw_ad G 1)), (1, .ref (tw_ad G q))] 154 [.long (lN (nb xs 46 2)), .ref (tw_ad G q)]
        refine tw_iconst C dX8_writePorts_154 (v := nI 2) (by decide) ?_
        refine tw_callV (As := [.long (lN (nb xs 46 2)), .int (nI 2)]) (rest := []) C N (e_X7_addNumber hG hq (xs := (ys ++ [241 % 256] ++ be (nb xs 40 2) 2 ++ [(nb xs 42 2) % 256]).take (tw_cap q)) (tq_uR_same _ _ _) (v := nb xs 46 2) (i := 2) (by omega) (by omega)) mm_X7_addNumber wd_361 rfl (hG _ (tw_row_lt hq).2) (tw_row_sh hq) rfl (by decide) rfl (Nat.le_of_ble_eq_true rfl) dX8_writePorts_155 ?_
        rintro _ _ rfl
        show TW G X (tw_uR (tw_uR S q ((ys ++ [241 % 256] ++ be (nb xs 40 2) 2 ++ [(nb xs 42 2) % 256]).take (tw_cap q))) q ((((ys ++ [241 % 256] ++ be (nb xs 40 2) 2 ++ [(nb xs 42 2) % 256]).take (tw_cap q)) ++ be (nb xs 46 2) 2).take (tw_cap q))) [(3, .int (nI (nb xs 42 2))), (2, .int (nI (nb xs 40 2))), (0, .ref (tw_ad G 1)), (1, .ref (tw_ad G q))] 158 []
        refine TW.sS (S' := tw_uR S q ((ys ++ [241 % 256] ++ be (nb xs 40 2) 2 ++ [(nb xs 42 2) % 256] ++ be (nb xs 46 2) 2).take (tw_cap q))) (by rw [tw_uR_uR, tk_tk]) ?_
        exact tw_return (v := ()) C Q dX8_writePorts_158 rfl rfl (by simp [sqPo, m16_256, *])
    · skip
      refine tw_aload_n C dX8_writePorts_36 3 rfl ?_
      refine tw_sipush C dX8_writePorts_37 (v := nI 243) (by decide) ?_
      refine tw_callV (As := [.int (nI 243)]) (rest := []) C N (e_X7_add hG hq (xs := ys) hy (x := 243)) mm_X7_add wd_357 rfl (hG _ (tw_row_lt hq).2) (tw_row_sh hq) rfl (by decide) rfl (Nat.le_of_ble_eq_true rfl) dX8_writePorts_40 ?_
      rintro _ _ rfl
      show TW G X (tw_uR S q ((ys ++ [243 % 256]).take (tw_cap q))) [(3, .int (nI (nb xs 42 2))), (2, .int (nI (nb xs 40 2))), (0, .ref (tw_ad G 1)), (1, .ref (tw_ad G q))] 43 []
      refine tw_aload_n C dX8_writePorts_43 3 rfl ?_
      refine tw_iload_n C dX8_writePorts_44 1 rfl ?_
      refine tw_bipush C dX8_writePorts_45 (v := nI 15) (by decide) ?_
      refine tw_iand C dX8_writePorts_47 (v := nI ((nb xs 40 2) % 16)) (nI_andm 4 (by decide)) ?_
      refine tw_iconst C dX8_writePorts_48 (v := nI 4) (by decide) ?_
      refine tw_ishl C dX8_writePorts_49 (v := nI (((nb xs 40 2) % 16) * 16)) (nI_shl _ 4 (by decide)) ?_
      refine tw_iload_n C dX8_writePorts_50 0 rfl ?_
      refine tw_bipush C dX8_writePorts_51 (v := nI 15) (by decide) ?_
      refine tw_iand C dX8_writePorts_53 (v := nI ((nb xs 42 2) % 16)) (nI_andm 4 (by decide)) ?_
      refine tw_ior C dX8_writePorts_54 (v := nI (nb xs 40 2 % 16 * 16 + nb xs 42 2 % 16)) (by rw [nI_or, or16 (Nat.mod_lt _ (by decide))]) ?_
      refine tw_callV (As := [.int (nI (nb xs 40 2 % 16 * 16 + nb xs 42 2 % 16))]) (rest := []) C N (e_X7_add hG hq (xs := (ys ++ [243 % 256]).take (tw_cap q)) (tq_uR_same _ _ _) (x := nb xs 40 2 % 16 * 16 + nb xs 42 2 % 16)) mm_X7_add wd_357 rfl (hG _ (tw_row_lt hq).2) (tw_row_sh hq) rfl (by decide) rfl (Nat.le_of_ble_eq_true rfl) dX8_writePorts_55 ?_
      rintro _ _ rfl
      show TW G X (tw_uR (tw_uR S q ((ys ++ [243 % 256]).take (tw_cap q))) q ((((ys ++ [243 % 256]).take (tw_cap q)) ++ [(nb xs 40 2 % 16 * 16 + nb xs 42 2 % 16) % 256]).take (tw_cap q))) [(3, .int (nI (nb xs 42 2))), (2, .int (nI (nb xs 40 2))), (0, .ref (tw_ad G 1)), (1, .ref (tw_ad G q))] 58 []
      refine TW.sS (S' := tw_uR S q ((ys ++ [243 % 256] ++ [(nb xs 40 2 % 16 * 16 + nb xs 42 2 % 16) % 256]).take (tw_cap q))) (by rw [tw_uR_uR, tk_tk]) ?_
      refine tw_goto C dX8_writePorts_58 (tgt := 146) (by decide) ?_
      refine tw_aload_n C dX8_writePorts_146 3 rfl ?_
      refine tw_aload_n C dX8_writePorts_147 2 rfl ?_
      refine tw_bipush C dX8_writePorts_148 (v := nI 46) (by decide) ?_
      refine tw_iconst C dX8_writePorts_150 (v := nI 2) (by decide) ?_
      refine tw_callV (As := [.int (nI 46), .int (nI 2)]) (rest := [.ref (tw_ad G q)]) C N (e_X7_number hG tw_row1 (xs := xs) ((tq_uR_ne _ _ hq1).trans hx) (f := 46) (i := 2) (by omega) (by omega)) mm_X7_number wd_318 rfl (hG 1 (by decide)) sh_1 rfl (by decide) rfl (Nat.le_of_ble_eq_true rfl) dX8_writePorts_151 ?_
      rintro _ _ ⟨rfl, rfl⟩
      show TW G X (tw_uR S q ((ys ++ [243 % 256] ++ [(nb xs 40 2 % 16 * 16 + nb xs 42 2 % 16) % 256]).take (tw_cap q))) [(3, .int (nI (nb xs 42 2))), (2, .int (nI (nb xs 40 2))), (0, .ref (tw_ad G 1)), (1, .ref (tw_ad G q))] 154 [.long (lN (nb xs 46 2)), .ref (tw_ad G q)]
      refine tw_iconst C dX8_writePorts_154 (v := nI 2) (by decide) ?_
      refine tw_callV (As := [.long (lN (nb xs 46 2)), .int (nI 2)]) (rest := []) C N (e_X7_addNumber hG hq (xs := (ys ++ [243 % 256] ++ [(nb xs 40 2 % 16 * 16 + nb xs 42 2 % 16) % 256]).take (tw_cap q)) (tq_uR_same _ _ _) (v := nb xs 46 2) (i := 2) (by omega) (by omega)) mm_X7_addNumber wd_361 rfl (hG _ (tw_row_lt hq).2) (tw_row_sh hq) rfl (by decide) rfl (Nat.le_of_ble_eq_true rfl) dX8_writePorts_155 ?_
      rintro _ _ rfl
      show TW G X (tw_uR (tw_uR S q ((ys ++ [243 % 256] ++ [(nb xs 40 2 % 16 * 16 + nb xs 42 2 % 16) % 256]).take (tw_cap q))) q ((((ys ++ [243 % 256] ++ [(nb xs 40 2 % 16 * 16 + nb xs 42 2 % 16) % 256]).take (tw_cap q)) ++ be (nb xs 46 2) 2).take (tw_cap q))) [(3, .int (nI (nb xs 42 2))), (2, .int (nI (nb xs 40 2))), (0, .ref (tw_ad G 1)), (1, .ref (tw_ad G q))] 158 []
      refine TW.sS (S' := tw_uR S q ((ys ++ [243 % 256] ++ [(nb xs 40 2 % 16 * 16 + nb xs 42 2 % 16) % 256] ++ be (nb xs 46 2) 2).take (tw_cap q))) (by rw [tw_uR_uR, tk_tk]) ?_
      exact tw_return (v := ()) C Q dX8_writePorts_158 rfl rfl (by simp [sqPo, m16_256, *])
theorem c_X8_write {G : tw_G} (hG : tw_cG G) {S : tw_S} {K : kN} (hK : KN S K) {q : Nat} (hq : tw_isRow q = true) (hq1 : 1 ≠ q) {xs ys : List Nat} (hx : tw_R S 1 = xs) (hy : tw_R S q = ys) : tw_M G yX8_write cX8_write 18 (some .int) 4 93 [.ref (tw_ad G 8), .ref (tw_ad G 1), .ref (tw_ad G q)] S ri_I (fun v S' => v = nI (sqHd K xs).length ∧ S' = tw_uR S q ((sqAll K xs).take (tw_cap q))) := by
  refine tw_M.of (L := [(0, .ref (tw_ad G 8)), (1, .ref (tw_ad G 1)), (2, .ref (tw_ad G q))]) (by decide) (Nat.le_of_ble_eq_true rfl) rfl (fun X C N Q => ?_)
  have C : tw_C G X cX8_write RX8 := C
  refine TW.wf (fun hwf => ?_)
  obtain ⟨hlen, hby⟩ := hwf 1 (hG 1 (by decide)) tw_row1
  rw [hx] at hlen hby
  refine TW.wf (fun hwf2 => ?_)
  have hcq := tw_cap_ge q
  have hn8_8 := nb_lt hby 8 8
  simp only [Nat.reducePow] at hn8_8
  have hn16_8 := nb_lt hby 16 8
  simp only [Nat.reducePow] at hn16_8
  have hn24_8 := nb_lt hby 24 8
  simp only [Nat.reducePow] at hn24_8
  have hn32_8 := nb_lt hby 32 8
  simp only [Nat.reducePow] at hn32_8
  have hx7 := getD_in hby 7
  have hx6 := getD_in hby 6
  have hs := mSrc_le K (nb xs 8 8) (nb xs 16 8)
  have hg := (mGoal_le K (nb xs 24 8) (nb xs 32 8)).1
  have hk1 := ctxN_lt K (mSrc K (nb xs 8 8) (nb xs 16 8)) (nb xs 8 8)
  have hk2 := ctxN_lt K (mGoal K (nb xs 24 8) (nb xs 32 8)) (nb xs 24 8)
  have hhd := sqHd_len K xs
  have hm1 : ∀ b, sqB1 (sqTF (pkT xs) (pkL xs)) (sqHL (xs.getD 7 0)) b % 256 = sqB1 (sqTF (pkT xs) (pkL xs)) (sqHL (xs.getD 7 0)) b := fun b => Nat.mod_eq_of_lt (by cases b; exact (sqB1_or _ (sqTF_lt _ _) _ (sqHL_lt _)).2.2.2; exact (sqB1_or _ (sqTF_lt _ _) _ (sqHL_lt _)).2.2.1)
  have hhl := sqHL_lt (xs.getD 7 0)
  have hm2 := Nat.mod_eq_of_lt (sqB2_or (mSrc K (nb xs 8 8) (nb xs 16 8)) (by omega) (mGoal K (nb xs 24 8) (nb xs 32 8)) (by omega)).2.2
  have hm2z : (0 + mSrc K (nb xs 8 8) (nb xs 16 8) * 16 + mGoal K (nb xs 24 8) (nb xs 32 8)) % 256 = 0 + mSrc K (nb xs 8 8) (nb xs 16 8) * 16 + mGoal K (nb xs 24 8) (nb xs 32 8) := Nat.mod_eq_of_lt (by omega)
  have hc1 : tw_cap 1 = 640 := rfl
  have hcq2 := tw_row_cap hq
  have hm3 : (16 * ctxN K (mSrc K (nb xs 8 8) (nb xs 16 8)) (nb xs 8 8) + ctxN K (mGoal K (nb xs 24 8) (nb xs 32 8)) (nb xs 24 8)) % 256 = 16 * ctxN K (mSrc K (nb xs 8 8) (nb xs 16 8)) (nb xs 8 8) + ctxN K (mGoal K (nb xs 24 8) (nb xs 32 8)) (nb xs 24 8) := Nat.mod_eq_of_lt (by omega)
  have hm6 := Nat.mod_eq_of_lt hx6
  have hm7 := Nat.mod_eq_of_lt hx7
  refine tw_aload_n C dX8_write_0 1 rfl ?_
  refine tw_callS (As := [.ref (tw_ad G 1)]) (rest := []) C N (c_X5_hasPorts hG tw_row1 (xs := xs) hx) mm_X5_hasPorts wd_300 rfl (by decide) rfl (Nat.le_of_ble_eq_true rfl) dX8_write_1 ?_
  rintro _ _ ⟨rfl, rfl⟩
  show TW G X S [(0, .ref (tw_ad G 8)), (1, .ref (tw_ad G 1)), (2, .ref (tw_ad G q))] 4 [.int (bI (hasPB xs))]
  refine tw_istore_n (L' := [(3, .int (bI (hasPB xs))), (0, .ref (tw_ad G 8)), (1, .ref (tw_ad G 1)), (2, .ref (tw_ad G q))]) C N dX8_write_4 rfl (by decide) rfl ?_
  refine tw_aload_n C dX8_write_5 2 rfl ?_
  refine tw_callS (As := [.ref (tw_ad G 1)]) (rest := []) C N (c_X8_trafficOf hG tw_row1 (xs := xs) hx) mm_X8_trafficOf wd_303 rfl (by decide) rfl (Nat.le_of_ble_eq_true rfl) dX8_write_6 ?_
  rintro _ _ ⟨rfl, rfl⟩
  show TW G X S [(3, .int (bI (hasPB xs))), (0, .ref (tw_ad G 8)), (1, .ref (tw_ad G 1)), (2, .ref (tw_ad G q))] 9 [.int (nI (sqTF (pkT xs) (pkL xs)))]
  refine tw_istore (L' := [(4, .int (nI (sqTF (pkT xs) (pkL xs)))), (3, .int (bI (hasPB xs))), (0, .ref (tw_ad G 8)), (1, .ref (tw_ad G 1)), (2, .ref (tw_ad G q))]) C N dX8_write_9 (i := 4) (by decide) rfl ?_
  refine tw_aload_n C dX8_write_11 3 rfl ?_
  refine tw_bipush C dX8_write_12 (v := nI 7) (by decide) ?_
  refine tw_callV (As := [.int (nI 7)]) (rest := []) C N (e_X7_at hG tw_row1 (xs := xs) hx (i := 7) (by omega)) mm_X7_at wd_314 rfl (hG 1 (by decide)) sh_1 rfl (by decide) rfl (Nat.le_of_ble_eq_true rfl) dX8_write_14 ?_
  rintro _ _ ⟨rfl, rfl⟩
  show TW G X S [(4, .int (nI (sqTF (pkT xs) (pkL xs)))), (3, .int (bI (hasPB xs))), (0, .ref (tw_ad G 8)), (1, .ref (tw_ad G 1)), (2, .ref (tw_ad G q))] 17 [.int (nI (xs.getD 7 0))]
  refine tw_callS (As := [.int (nI (xs.getD 7 0))]) (rest := []) C N (c_X8_hopsOf hG (h := xs.getD 7 0) (by omega)) mm_X8_hopsOf wd_315 rfl (by decide) rfl (Nat.le_of_ble_eq_true rfl) dX8_write_17 ?_
  rintro _ _ ⟨rfl, rfl⟩
  show TW G X S [(4, .int (nI (sqTF (pkT xs) (pkL xs)))), (3, .int (bI (hasPB xs))), (0, .ref (tw_ad G 8)), (1, .ref (tw_ad G 1)), (2, .ref (tw_ad G q))] 20 [.int (nI (sqHL (xs.getD 7 0)))]
  refine tw_istore (L' := [(5, .int (nI (sqHL (xs.getD 7 0)))), (4, .int (nI (sqTF (pkT xs) (pkL xs)))), (3, .int (bI (hasPB xs))), (0, .ref (tw_ad G 8)), (1, .ref (tw_ad G 1)), (2, .ref (tw_ad G q))]) C N dX8_write_20 (i := 5) (by decide) rfl ?_
  refine tw_aload_n C dX8_write_22 4 rfl ?_
  refine tw_bipush C dX8_write_23 (v := nI 8) (by decide) ?_
  refine tw_bipush C dX8_write_25 (v := nI 8) (by decide) ?_
  refine tw_callV (As := [.int (nI 8), .int (nI 8)]) (rest := []) C N (e_X7_number hG tw_row1 (xs := xs) hx (f := 8) (i := 8) (by omega) (by omega)) mm_X7_number wd_318 rfl (hG 1 (by decide)) sh_1 rfl (by decide) rfl (Nat.le_of_ble_eq_true rfl) dX8_write_27 ?_
  rintro _ _ ⟨rfl, rfl⟩
  show TW G X S [(5, .int (nI (sqHL (xs.getD 7 0)))), (4, .int (nI (sqTF (pkT xs) (pkL xs)))), (3, .int (bI (hasPB xs))), (0, .ref (tw_ad G 8)), (1, .ref (tw_ad G 1)), (2, .ref (tw_ad G q))] 30 [.long (lN (nb xs 8 8))]
  refine tw_lstore (L' := [(6, .long (lN (nb xs 8 8))), (5, .int (nI (sqHL (xs.getD 7 0)))), (4, .int (nI (sqTF (pkT xs) (pkL xs)))), (3, .int (bI (hasPB xs))), (0, .ref (tw_ad G 8)), (1, .ref (tw_ad G 1)), (2, .ref (tw_ad G q))]) C N dX8_write_30 (i := 6) (by decide) rfl ?_
  refine tw_aload_n C dX8_write_32 5 rfl ?_
  refine tw_bipush C dX8_write_33 (v := nI 16) (by decide) ?_
  refine tw_bipush C dX8_write_35 (v := nI 8) (by decide) ?_
  refine tw_callV (As := [.int (nI 16), .int (nI 8)]) (rest := []) C N (e_X7_number hG tw_row1 (xs := xs) hx (f := 16) (i := 8) (by omega) (by omega)) mm_X7_number wd_318 rfl (hG 1 (by decide)) sh_1 rfl (by decide) rfl (Nat.le_of_ble_eq_true rfl) dX8_write_37 ?_
  rintro _ _ ⟨rfl, rfl⟩
  show TW G X S [(6, .long (lN (nb xs 8 8))), (5, .int (nI (sqHL (xs.getD 7 0)))), (4, .int (nI (sqTF (pkT xs) (pkL xs)))), (3, .int (bI (hasPB xs))), (0, .ref (tw_ad G 8)), (1, .ref (tw_ad G 1)), (2, .ref (tw_ad G q))] 40 [.long (lN (nb xs 16 8))]
  refine tw_lstore (L' := [(8, .long (lN (nb xs 16 8))), (6, .long (lN (nb xs 8 8))), (5, .int (nI (sqHL (xs.getD 7 0)))), (4, .int (nI (sqTF (pkT xs) (pkL xs)))), (3, .int (bI (hasPB xs))), (0, .ref (tw_ad G 8)), (1, .ref (tw_ad G 1)), (2, .ref (tw_ad G q))]) C N dX8_write_40 (i := 8) (by decide) rfl ?_
  refine tw_aload_n C dX8_write_42 6 rfl ?_
  refine tw_bipush C dX8_write_43 (v := nI 24) (by decide) ?_
  refine tw_bipush C dX8_write_45 (v := nI 8) (by decide) ?_
  refine tw_callV (As := [.int (nI 24), .int (nI 8)]) (rest := []) C N (e_X7_number hG tw_row1 (xs := xs) hx (f := 24) (i := 8) (by omega) (by omega)) mm_X7_number wd_318 rfl (hG 1 (by decide)) sh_1 rfl (by decide) rfl (Nat.le_of_ble_eq_true rfl) dX8_write_47 ?_
  rintro _ _ ⟨rfl, rfl⟩
  show TW G X S [(8, .long (lN (nb xs 16 8))), (6, .long (lN (nb xs 8 8))), (5, .int (nI (sqHL (xs.getD 7 0)))), (4, .int (nI (sqTF (pkT xs) (pkL xs)))), (3, .int (bI (hasPB xs))), (0, .ref (tw_ad G 8)), (1, .ref (tw_ad G 1)), (2, .ref (tw_ad G q))] 50 [.long (lN (nb xs 24 8))]
  refine tw_lstore (L' := [(10, .long (lN (nb xs 24 8))), (8, .long (lN (nb xs 16 8))), (6, .long (lN (nb xs 8 8))), (5, .int (nI (sqHL (xs.getD 7 0)))), (4, .int (nI (sqTF (pkT xs) (pkL xs)))), (3, .int (bI (hasPB xs))), (0, .ref (tw_ad G 8)), (1, .ref (tw_ad G 1)), (2, .ref (tw_ad G q))]) C N dX8_write_50 (i := 10) (by decide) rfl ?_
  refine tw_aload_n C dX8_write_52 7 rfl ?_
  refine tw_bipush C dX8_write_53 (v := nI 32) (by decide) ?_
  refine tw_bipush C dX8_write_55 (v := nI 8) (by decide) ?_
  refine tw_callV (As := [.int (nI 32), .int (nI 8)]) (rest := []) C N (e_X7_number hG tw_row1 (xs := xs) hx (f := 32) (i := 8) (by omega) (by omega)) mm_X7_number wd_318 rfl (hG 1 (by decide)) sh_1 rfl (by decide) rfl (Nat.le_of_ble_eq_true rfl) dX8_write_57 ?_
  rintro _ _ ⟨rfl, rfl⟩
  show TW G X S [(10, .long (lN (nb xs 24 8))), (8, .long (lN (nb xs 16 8))), (6, .long (lN (nb xs 8 8))), (5, .int (nI (sqHL (xs.getD 7 0)))), (4, .int (nI (sqTF (pkT xs) (pkL xs)))), (3, .int (bI (hasPB xs))), (0, .ref (tw_ad G 8)), (1, .ref (tw_ad G 1)), (2, .ref (tw_ad G q))] 60 [.long (lN (nb xs 32 8))]
  refine tw_lstore (L' := [(12, .long (lN (nb xs 32 8))), (10, .long (lN (nb xs 24 8))), (8, .long (lN (nb xs 16 8))), (6, .long (lN (nb xs 8 8))), (5, .int (nI (sqHL (xs.getD 7 0)))), (4, .int (nI (sqTF (pkT xs) (pkL xs)))), (3, .int (bI (hasPB xs))), (0, .ref (tw_ad G 8)), (1, .ref (tw_ad G 1)), (2, .ref (tw_ad G q))]) C N dX8_write_60 (i := 12) (by decide) rfl ?_
  refine tw_aload_n C dX8_write_62 7 rfl ?_
  refine tw_getR (q := 5) (k := 0) C dX8_write_63 fc_X8 sh_8 (hG 8 (by decide)) rfl (by decide) wd_59 ?_
  refine tw_lload C dX8_write_66 3 rfl ?_
  refine tw_lload C dX8_write_68 2 rfl ?_
  refine tw_callS (As := [.ref (tw_ad G 5), .long (lN (nb xs 8 8)), .long (lN (nb xs 16 8))]) (rest := []) C N (c_X4_ofSource hG hK (f := nb xs 8 8) (l := nb xs 16 8) (by omega) (by omega)) mm_X4_ofSource wd_319 rfl (by decide) rfl (Nat.le_of_ble_eq_true rfl) dX8_write_70 ?_
  rintro _ _ ⟨rfl, rfl⟩
  show TW G X S [(12, .long (lN (nb xs 32 8))), (10, .long (lN (nb xs 24 8))), (8, .long (lN (nb xs 16 8))), (6, .long (lN (nb xs 8 8))), (5, .int (nI (sqHL (xs.getD 7 0)))), (4, .int (nI (sqTF (pkT xs) (pkL xs)))), (3, .int (bI (hasPB xs))), (0, .ref (tw_ad G 8)), (1, .ref (tw_ad G 1)), (2, .ref (tw_ad G q))] 73 [.int (nI (mSrc K (nb xs 8 8) (nb xs 16 8)))]
  refine tw_istore (L' := [(14, .int (nI (mSrc K (nb xs 8 8) (nb xs 16 8)))), (12, .long (lN (nb xs 32 8))), (10, .long (lN (nb xs 24 8))), (8, .long (lN (nb xs 16 8))), (6, .long (lN (nb xs 8 8))), (5, .int (nI (sqHL (xs.getD 7 0)))), (4, .int (nI (sqTF (pkT xs) (pkL xs)))), (3, .int (bI (hasPB xs))), (0, .ref (tw_ad G 8)), (1, .ref (tw_ad G 1)), (2, .ref (tw_ad G q))]) C N dX8_write_73 (i := 14) (by decide) rfl ?_
  refine tw_aload_n C dX8_write_75 8 rfl ?_
  refine tw_getR (q := 5) (k := 0) C dX8_write_76 fc_X8 sh_8 (hG 8 (by decide)) rfl (by decide) wd_59 ?_
  refine tw_lload C dX8_write_79 2 rfl ?_
  refine tw_lload C dX8_write_81 1 rfl ?_
  refine tw_callS (As := [.ref (tw_ad G 5), .long (lN (nb xs 24 8)), .long (lN (nb xs 32 8))]) (rest := []) C N (c_X4_ofGoal hG hK (f := nb xs 24 8) (l := nb xs 32 8) (by omega) (by omega)) mm_X4_ofGoal wd_339 rfl (by decide) rfl (Nat.le_of_ble_eq_true rfl) dX8_write_83 ?_
  rintro _ _ ⟨rfl, rfl⟩
  show TW G X S [(14, .int (nI (mSrc K (nb xs 8 8) (nb xs 16 8)))), (12, .long (lN (nb xs 32 8))), (10, .long (lN (nb xs 24 8))), (8, .long (lN (nb xs 16 8))), (6, .long (lN (nb xs 8 8))), (5, .int (nI (sqHL (xs.getD 7 0)))), (4, .int (nI (sqTF (pkT xs) (pkL xs)))), (3, .int (bI (hasPB xs))), (0, .ref (tw_ad G 8)), (1, .ref (tw_ad G 1)), (2, .ref (tw_ad G q))] 86 [.int (nI (mGoal K (nb xs 24 8) (nb xs 32 8)))]
  refine tw_istore (L' := [(15, .int (nI (mGoal K (nb xs 24 8) (nb xs 32 8)))), (14, .int (nI (mSrc K (nb xs 8 8) (nb xs 16 8)))), (12, .long (lN (nb xs 32 8))), (10, .long (lN (nb xs 24 8))), (8, .long (lN (nb xs 16 8))), (6, .long (lN (nb xs 8 8))), (5, .int (nI (sqHL (xs.getD 7 0)))), (4, .int (nI (sqTF (pkT xs) (pkL xs)))), (3, .int (bI (hasPB xs))), (0, .ref (tw_ad G 8)), (1, .ref (tw_ad G 1)), (2, .ref (tw_ad G q))]) C N dX8_write_86 (i := 15) (by decide) rfl ?_
  refine tw_bipush C dX8_write_88 (v := nI 16) (by decide) ?_
  refine tw_aload_n C dX8_write_90 9 rfl ?_
  refine tw_iload C dX8_write_91 1 rfl ?_
  refine tw_lload C dX8_write_93 5 rfl ?_
  refine tw_callV (As := [.int (nI (mSrc K (nb xs 8 8) (nb xs 16 8))), .long (lN (nb xs 8 8))]) (rest := [.int (nI 16)]) C N (c_X8_contextOf hG hK (m := mSrc K (nb xs 8 8) (nb xs 16 8)) (f := nb xs 8 8) (by omega) (by omega) (fun h => mSrc_ctx h.1)) mm_X8_contextOf wd_348 rfl (hG 8 (by decide)) sh_8 rfl (by decide) rfl (Nat.le_of_ble_eq_true rfl) dX8_write_95 ?_
  rintro _ _ ⟨rfl, rfl⟩
  show TW G X S [(15, .int (nI (mGoal K (nb xs 24 8) (nb xs 32 8)))), (14, .int (nI (mSrc K (nb xs 8 8) (nb xs 16 8)))), (12, .long (lN (nb xs 32 8))), (10, .long (lN (nb xs 24 8))), (8, .long (lN (nb xs 16 8))), (6, .long (lN (nb xs 8 8))), (5, .int (nI (sqHL (xs.getD 7 0)))), (4, .int (nI (sqTF (pkT xs) (pkL xs)))), (3, .int (bI (hasPB xs))), (0, .ref (tw_ad G 8)), (1, .ref (tw_ad G 1)), (2, .ref (tw_ad G q))] 98 [.int (nI (ctxN K (mSrc K (nb xs 8 8) (nb xs 16 8)) (nb xs 8 8))), .int (nI 16)]
  refine tw_imul C dX8_write_98 (v := nI (16 * (ctxN K (mSrc K (nb xs 8 8) (nb xs 16 8)) (nb xs 8 8)))) (pk_mul _ _) ?_
  refine tw_aload_n C dX8_write_99 9 rfl ?_
  refine tw_iload C dX8_write_100 0 rfl ?_
  refine tw_lload C dX8_write_102 3 rfl ?_
  refine tw_callV (As := [.int (nI (mGoal K (nb xs 24 8) (nb xs 32 8))), .long (lN (nb xs 24 8))]) (rest := [.int (nI (16 * (ctxN K (mSrc K (nb xs 8 8) (nb xs 16 8)) (nb xs 8 8))))]) C N (c_X8_contextOf hG hK (m := mGoal K (nb xs 24 8) (nb xs 32 8)) (f := nb xs 24 8) (by omega) (by omega) (fun h => mGoal_ctx h.1 h.2)) mm_X8_contextOf wd_348 rfl (hG 8 (by decide)) sh_8 rfl (by decide) rfl (Nat.le_of_ble_eq_true rfl) dX8_write_104 ?_
  rintro _ _ ⟨rfl, rfl⟩
  show TW G X S [(15, .int (nI (mGoal K (nb xs 24 8) (nb xs 32 8)))), (14, .int (nI (mSrc K (nb xs 8 8) (nb xs 16 8)))), (12, .long (lN (nb xs 32 8))), (10, .long (lN (nb xs 24 8))), (8, .long (lN (nb xs 16 8))), (6, .long (lN (nb xs 8 8))), (5, .int (nI (sqHL (xs.getD 7 0)))), (4, .int (nI (sqTF (pkT xs) (pkL xs)))), (3, .int (bI (hasPB xs))), (0, .ref (tw_ad G 8)), (1, .ref (tw_ad G 1)), (2, .ref (tw_ad G q))] 107 [.int (nI (ctxN K (mGoal K (nb xs 24 8) (nb xs 32 8)) (nb xs 24 8))), .int (nI (16 * (ctxN K (mSrc K (nb xs 8 8) (nb xs 16 8)) (nb xs 8 8))))]
  refine tw_iadd C dX8_write_107 (v := nI ((16 * (ctxN K (mSrc K (nb xs 8 8) (nb xs 16 8)) (nb xs 8 8))) + (ctxN K (mGoal K (nb xs 24 8) (nb xs 32 8)) (nb xs 24 8)))) (nI_add _ _) ?_
  refine tw_istore (L' := [(16, .int (nI ((16 * (ctxN K (mSrc K (nb xs 8 8) (nb xs 16 8)) (nb xs 8 8))) + (ctxN K (mGoal K (nb xs 24 8) (nb xs 32 8)) (nb xs 24 8))))), (15, .int (nI (mGoal K (nb xs 24 8) (nb xs 32 8)))), (14, .int (nI (mSrc K (nb xs 8 8) (nb xs 16 8)))), (12, .long (lN (nb xs 32 8))), (10, .long (lN (nb xs 24 8))), (8, .long (lN (nb xs 16 8))), (6, .long (lN (nb xs 8 8))), (5, .int (nI (sqHL (xs.getD 7 0)))), (4, .int (nI (sqTF (pkT xs) (pkL xs)))), (3, .int (bI (hasPB xs))), (0, .ref (tw_ad G 8)), (1, .ref (tw_ad G 1)), (2, .ref (tw_ad G q))]) C N dX8_write_108 (i := 16) (by decide) rfl ?_
  refine tw_aload_n C dX8_write_110 12 rfl ?_
  refine tw_iconst C dX8_write_111 (v := nI 0) (by decide) ?_
  refine tw_callV (As := [.int (nI 0)]) (rest := []) C N (e_X7_shorten hG hq (xs := ys) hy (i := 0) (by omega)) mm_X7_shorten wd_356 rfl (hG _ (tw_row_lt hq).2) (tw_row_sh hq) rfl (by decide) rfl (Nat.le_of_ble_eq_true rfl) dX8_write_112 ?_
  rintro _ _ rfl
  show TW G X (tw_uR S q (ys.take 0)) [(16, .int (nI ((16 * (ctxN K (mSrc K (nb xs 8 8) (nb xs 16 8)) (nb xs 8 8))) + (ctxN K (mGoal K (nb xs 24 8) (nb xs 32 8)) (nb xs 24 8))))), (15, .int (nI (mGoal K (nb xs 24 8) (nb xs 32 8)))), (14, .int (nI (mSrc K (nb xs 8 8) (nb xs 16 8)))), (12, .long (lN (nb xs 32 8))), (10, .long (lN (nb xs 24 8))), (8, .long (lN (nb xs 16 8))), (6, .long (lN (nb xs 8 8))), (5, .int (nI (sqHL (xs.getD 7 0)))), (4, .int (nI (sqTF (pkT xs) (pkL xs)))), (3, .int (bI (hasPB xs))), (0, .ref (tw_ad G 8)), (1, .ref (tw_ad G 1)), (2, .ref (tw_ad G q))] 115 []
  refine TW.sS (S' := tw_uR S q ((([] : List Nat)).take (tw_cap q))) (by simp) ?_
  refine tw_aload_n C dX8_write_115 12 rfl ?_
  rcases (show (hasPB xs = true ∨ hasPB xs = false) by cases hasPB xs <;> simp) with hpb | hpb <;> rcases Nat.eq_zero_or_pos (16 * ctxN K (mSrc K (nb xs 8 8) (nb xs 16 8)) (nb xs 8 8) + ctxN K (mGoal K (nb xs 24 8) (nb xs 32 8)) (nb xs 24 8)) with hc0 | hc0 <;> rcases Nat.eq_zero_or_pos (sqHL (xs.getD 7 0)) with hl0 | hl0
  · skip
    refine tw_bipush C dX8_write_116 (v := nI 96) (by decide) ?_
    refine tw_iload C dX8_write_118 8 rfl ?_
    refine tw_iconst C dX8_write_120 (v := nI 3) (by decide) ?_
    refine tw_ishl C dX8_write_121 (v := nI ((sqTF (pkT xs) (pkL xs)) * 8)) (nI_shl _ 3 (by decide)) ?_
    refine tw_ior C dX8_write_122 (v := nI (96 ||| ((sqTF (pkT xs) (pkL xs)) * 8))) (nI_or _ _) ?_
    refine tw_iload_n C dX8_write_123 9 rfl ?_
    refine tb_if_eq C dX8_write_124 (tgt := 131) (by decide) (fun cb => ?_) (fun cb => ?_)
    · exact absurd cb (by simp [hpb])
    refine tw_iconst C dX8_write_127 (v := nI 4) (by decide) ?_
    refine tw_goto C dX8_write_128 (tgt := 132) (by decide) ?_
    refine tw_ior C dX8_write_132 (v := nI ((96 ||| ((sqTF (pkT xs) (pkL xs)) * 8)) ||| 4)) (nI_or _ _) ?_
    refine tw_iload C dX8_write_133 7 rfl ?_
    refine tw_ior C dX8_write_135 (v := nI (sqB1 (sqTF (pkT xs) (pkL xs)) (sqHL (xs.getD 7 0)) true)) (by rw [nI_or, (sqB1_or _ (sqTF_lt _ _) _ (sqHL_lt _)).1]) ?_
    refine tw_callV (As := [.int (nI (sqB1 (sqTF (pkT xs) (pkL xs)) (sqHL (xs.getD 7 0)) true))]) (rest := []) C N (e_X7_add hG hq (xs := (([] : List Nat)).take (tw_cap q)) (tq_uR_same _ _ _) (x := sqB1 (sqTF (pkT xs) (pkL xs)) (sqHL (xs.getD 7 0)) true)) mm_X7_add wd_357 rfl (hG _ (tw_row_lt hq).2) (tw_row_sh hq) rfl (by decide) rfl (Nat.le_of_ble_eq_true rfl) dX8_write_136 ?_
    rintro _ _ rfl
    show TW G X (tw_uR (tw_uR S q ((([] : List Nat)).take (tw_cap q))) q ((((([] : List Nat)).take (tw_cap q)) ++ [(sqB1 (sqTF (pkT xs) (pkL xs)) (sqHL (xs.getD 7 0)) true) % 256]).take (tw_cap q))) [(16, .int (nI ((16 * (ctxN K (mSrc K (nb xs 8 8) (nb xs 16 8)) (nb xs 8 8))) + (ctxN K (mGoal K (nb xs 24 8) (nb xs 32 8)) (nb xs 24 8))))), (15, .int (nI (mGoal K (nb xs 24 8) (nb xs 32 8)))), (14, .int (nI (mSrc K (nb xs 8 8) (nb xs 16 8)))), (12, .long (lN (nb xs 32 8))), (10, .long (lN (nb xs 24 8))), (8, .long (lN (nb xs 16 8))), (6, .long (lN (nb xs 8 8))), (5, .int (nI (sqHL (xs.getD 7 0)))), (4, .int (nI (sqTF (pkT xs) (pkL xs)))), (3, .int (bI (hasPB xs))), (0, .ref (tw_ad G 8)), (1, .ref (tw_ad G 1)), (2, .ref (tw_ad G q))] 139 []
    refine TW.sS (S' := tw_uR S q ((([] : List Nat) ++ [(sqB1 (sqTF (pkT xs) (pkL xs)) (sqHL (xs.getD 7 0)) true) % 256]).take (tw_cap q))) (by rw [tw_uR_uR, tk_tk]) ?_
    refine tw_aload_n C dX8_write_139 12 rfl ?_
    refine tw_iload C dX8_write_140 0 rfl ?_
    refine tn_if_eq C dX8_write_142 (tgt := 151) (by decide) (by omega) (fun cc => ?_) (fun cc => ?_)
    · skip
      refine tw_iconst C dX8_write_151 (v := nI 0) (by decide) ?_
      refine tw_iload C dX8_write_152 2 rfl ?_
      refine tw_iconst C dX8_write_154 (v := nI 4) (by decide) ?_
      refine tw_ishl C dX8_write_155 (v := nI ((mSrc K (nb xs 8 8) (nb xs 16 8)) * 16)) (nI_shl _ 4 (by decide)) ?_
      refine tw_ior C dX8_write_156 (v := nI (0 ||| ((mSrc K (nb xs 8 8) (nb xs 16 8)) * 16))) (nI_or _ _) ?_
      refine tw_iload C dX8_write_157 1 rfl ?_
      refine tw_ior C dX8_write_159 (v := nI (0 + (mSrc K (nb xs 8 8) (nb xs 16 8)) * 16 + mGoal K (nb xs 24 8) (nb xs 32 8))) (by rw [nI_or, (sqB2_or _ (by omega) _ (by omega)).2.1]) ?_
      refine tw_callV (As := [.int (nI (0 + (mSrc K (nb xs 8 8) (nb xs 16 8)) * 16 + mGoal K (nb xs 24 8) (nb xs 32 8)))]) (rest := []) C N (e_X7_add hG hq (xs := (([] : List Nat) ++ [(sqB1 (sqTF (pkT xs) (pkL xs)) (sqHL (xs.getD 7 0)) true) % 256]).take (tw_cap q)) (tq_uR_same _ _ _) (x := 0 + (mSrc K (nb xs 8 8) (nb xs 16 8)) * 16 + mGoal K (nb xs 24 8) (nb xs 32 8))) mm_X7_add wd_357 rfl (hG _ (tw_row_lt hq).2) (tw_row_sh hq) rfl (by decide) rfl (Nat.le_of_ble_eq_true rfl) dX8_write_160 ?_
      rintro _ _ rfl
      show TW G X (tw_uR (tw_uR S q ((([] : List Nat) ++ [(sqB1 (sqTF (pkT xs) (pkL xs)) (sqHL (xs.getD 7 0)) true) % 256]).take (tw_cap q))) q ((((([] : List Nat) ++ [(sqB1 (sqTF (pkT xs) (pkL xs)) (sqHL (xs.getD 7 0)) true) % 256]).take (tw_cap q)) ++ [(0 + (mSrc K (nb xs 8 8) (nb xs 16 8)) * 16 + mGoal K (nb xs 24 8) (nb xs 32 8)) % 256]).take (tw_cap q))) [(16, .int (nI ((16 * (ctxN K (mSrc K (nb xs 8 8) (nb xs 16 8)) (nb xs 8 8))) + (ctxN K (mGoal K (nb xs 24 8) (nb xs 32 8)) (nb xs 24 8))))), (15, .int (nI (mGoal K (nb xs 24 8) (nb xs 32 8)))), (14, .int (nI (mSrc K (nb xs 8 8) (nb xs 16 8)))), (12, .long (lN (nb xs 32 8))), (10, .long (lN (nb xs 24 8))), (8, .long (lN (nb xs 16 8))), (6, .long (lN (nb xs 8 8))), (5, .int (nI (sqHL (xs.getD 7 0)))), (4, .int (nI (sqTF (pkT xs) (pkL xs)))), (3, .int (bI (hasPB xs))), (0, .ref (tw_ad G 8)), (1, .ref (tw_ad G 1)), (2, .ref (tw_ad G q))] 163 []
      refine TW.sS (S' := tw_uR S q ((([] : List Nat) ++ [(sqB1 (sqTF (pkT xs) (pkL xs)) (sqHL (xs.getD 7 0)) true) % 256] ++ [(0 + (mSrc K (nb xs 8 8) (nb xs 16 8)) * 16 + mGoal K (nb xs 24 8) (nb xs 32 8)) % 256]).take (tw_cap q))) (by rw [tw_uR_uR, tk_tk]) ?_
      refine tw_iload C dX8_write_163 0 rfl ?_
      refine tn_if_eq C dX8_write_165 (tgt := 174) (by decide) (by omega) (fun cc => ?_) (fun cc => ?_)
      · skip
        refine tw_aload_n C dX8_write_174 11 rfl ?_
        refine tw_iload C dX8_write_175 8 rfl ?_
        refine tw_aload_n C dX8_write_177 12 rfl ?_
        refine tw_callS (As := [.ref (tw_ad G 1), .int (nI (sqTF (pkT xs) (pkL xs))), .ref (tw_ad G q)]) (rest := []) C N (c_X8_writeTraffic hG hq hq1 (xs := xs) (ys := (([] : List Nat) ++ [(sqB1 (sqTF (pkT xs) (pkL xs)) (sqHL (xs.getD 7 0)) true) % 256] ++ [(0 + (mSrc K (nb xs 8 8) (nb xs 16 8)) * 16 + mGoal K (nb xs 24 8) (nb xs 32 8)) % 256]).take (tw_cap q)) ((tq_uR_ne _ _ hq1).trans hx) (tq_uR_same _ _ _) (tf := sqTF (pkT xs) (pkL xs)) (sqTF_lt _ _) sqTF_1) mm_X8_writeTraffic wd_358 rfl (by decide) rfl (Nat.le_of_ble_eq_true rfl) dX8_write_178 ?_
        rintro _ _ rfl
        show TW G X (tw_uR (tw_uR S q ((([] : List Nat) ++ [(sqB1 (sqTF (pkT xs) (pkL xs)) (sqHL (xs.getD 7 0)) true) % 256] ++ [(0 + (mSrc K (nb xs 8 8) (nb xs 16 8)) * 16 + mGoal K (nb xs 24 8) (nb xs 32 8)) % 256]).take (tw_cap q))) q ((((([] : List Nat) ++ [(sqB1 (sqTF (pkT xs) (pkL xs)) (sqHL (xs.getD 7 0)) true) % 256] ++ [(0 + (mSrc K (nb xs 8 8) (nb xs 16 8)) * 16 + mGoal K (nb xs 24 8) (nb xs 32 8)) % 256]).take (tw_cap q)) ++ sqTr (sqTF (pkT xs) (pkL xs)) (pkT xs) (pkL xs)).take (tw_cap q))) [(16, .int (nI ((16 * (ctxN K (mSrc K (nb xs 8 8) (nb xs 16 8)) (nb xs 8 8))) + (ctxN K (mGoal K (nb xs 24 8) (nb xs 32 8)) (nb xs 24 8))))), (15, .int (nI (mGoal K (nb xs 24 8) (nb xs 32 8)))), (14, .int (nI (mSrc K (nb xs 8 8) (nb xs 16 8)))), (12, .long (lN (nb xs 32 8))), (10, .long (lN (nb xs 24 8))), (8, .long (lN (nb xs 16 8))), (6, .long (lN (nb xs 8 8))), (5, .int (nI (sqHL (xs.getD 7 0)))), (4, .int (nI (sqTF (pkT xs) (pkL xs)))), (3, .int (bI (hasPB xs))), (0, .ref (tw_ad G 8)), (1, .ref (tw_ad G 1)), (2, .ref (tw_ad G q))] 181 []
        refine TW.sS (S' := tw_uR S q ((([] : List Nat) ++ [(sqB1 (sqTF (pkT xs) (pkL xs)) (sqHL (xs.getD 7 0)) true) % 256] ++ [(0 + (mSrc K (nb xs 8 8) (nb xs 16 8)) * 16 + mGoal K (nb xs 24 8) (nb xs 32 8)) % 256] ++ sqTr (sqTF (pkT xs) (pkL xs)) (pkT xs) (pkL xs)).take (tw_cap q))) (by rw [tw_uR_uR, tk_tk]) ?_
        refine tw_iload_n C dX8_write_181 9 rfl ?_
        refine tb_if_ne C dX8_write_182 (tgt := 195) (by decide) (fun cb => ?_) (fun cb => ?_)
        · skip
          refine tw_iload C dX8_write_195 7 rfl ?_
          refine tn_if_ne C dX8_write_197 (tgt := 210) (by decide) (by omega) (fun ch => ?_) (fun ch => ?_)
          · exact absurd ch (by omega)
          refine tw_aload_n C dX8_write_200 12 rfl ?_
          refine tw_aload_n C dX8_write_201 11 rfl ?_
          refine tw_bipush C dX8_write_202 (v := nI 7) (by decide) ?_
          refine tw_callV (As := [.int (nI 7)]) (rest := [.ref (tw_ad G q)]) C N (e_X7_at hG tw_row1 (xs := xs) ((tq_uR_ne _ _ hq1).trans hx) (i := 7) (by omega)) mm_X7_at wd_314 rfl (hG 1 (by decide)) sh_1 rfl (by decide) rfl (Nat.le_of_ble_eq_true rfl) dX8_write_204 ?_
          rintro _ _ ⟨rfl, rfl⟩
          show TW G X (tw_uR S q ((([] : List Nat) ++ [(sqB1 (sqTF (pkT xs) (pkL xs)) (sqHL (xs.getD 7 0)) true) % 256] ++ [(0 + (mSrc K (nb xs 8 8) (nb xs 16 8)) * 16 + mGoal K (nb xs 24 8) (nb xs 32 8)) % 256] ++ sqTr (sqTF (pkT xs) (pkL xs)) (pkT xs) (pkL xs)).take (tw_cap q))) [(16, .int (nI ((16 * (ctxN K (mSrc K (nb xs 8 8) (nb xs 16 8)) (nb xs 8 8))) + (ctxN K (mGoal K (nb xs 24 8) (nb xs 32 8)) (nb xs 24 8))))), (15, .int (nI (mGoal K (nb xs 24 8) (nb xs 32 8)))), (14, .int (nI (mSrc K (nb xs 8 8) (nb xs 16 8)))), (12, .long (lN (nb xs 32 8))), (10, .long (lN (nb xs 24 8))), (8, .long (lN (nb xs 16 8))), (6, .long (lN (nb xs 8 8))), (5, .int (nI (sqHL (xs.getD 7 0)))), (4, .int (nI (sqTF (pkT xs) (pkL xs)))), (3, .int (bI (hasPB xs))), (0, .ref (tw_ad G 8)), (1, .ref (tw_ad G 1)), (2, .ref (tw_ad G q))] 207 [.int (nI (xs.getD 7 0)), .ref (tw_ad G q)]
          refine tw_callV (As := [.int (nI (xs.getD 7 0))]) (rest := []) C N (e_X7_add hG hq (xs := (([] : List Nat) ++ [(sqB1 (sqTF (pkT xs) (pkL xs)) (sqHL (xs.getD 7 0)) true) % 256] ++ [(0 + (mSrc K (nb xs 8 8) (nb xs 16 8)) * 16 + mGoal K (nb xs 24 8) (nb xs 32 8)) % 256] ++ sqTr (sqTF (pkT xs) (pkL xs)) (pkT xs) (pkL xs)).take (tw_cap q)) (tq_uR_same _ _ _) (x := xs.getD 7 0)) mm_X7_add wd_357 rfl (hG _ (tw_row_lt hq).2) (tw_row_sh hq) rfl (by decide) rfl (Nat.le_of_ble_eq_true rfl) dX8_write_207 ?_
          rintro _ _ rfl
          show TW G X (tw_uR (tw_uR S q ((([] : List Nat) ++ [(sqB1 (sqTF (pkT xs) (pkL xs)) (sqHL (xs.getD 7 0)) true) % 256] ++ [(0 + (mSrc K (nb xs 8 8) (nb xs 16 8)) * 16 + mGoal K (nb xs 24 8) (nb xs 32 8)) % 256] ++ sqTr (sqTF (pkT xs) (pkL xs)) (pkT xs) (pkL xs)).take (tw_cap q))) q ((((([] : List Nat) ++ [(sqB1 (sqTF (pkT xs) (pkL xs)) (sqHL (xs.getD 7 0)) true) % 256] ++ [(0 + (mSrc K (nb xs 8 8) (nb xs 16 8)) * 16 + mGoal K (nb xs 24 8) (nb xs 32 8)) % 256] ++ sqTr (sqTF (pkT xs) (pkL xs)) (pkT xs) (pkL xs)).take (tw_cap q)) ++ [(xs.getD 7 0) % 256]).take (tw_cap q))) [(16, .int (nI ((16 * (ctxN K (mSrc K (nb xs 8 8) (nb xs 16 8)) (nb xs 8 8))) + (ctxN K (mGoal K (nb xs 24 8) (nb xs 32 8)) (nb xs 24 8))))), (15, .int (nI (mGoal K (nb xs 24 8) (nb xs 32 8)))), (14, .int (nI (mSrc K (nb xs 8 8) (nb xs 16 8)))), (12, .long (lN (nb xs 32 8))), (10, .long (lN (nb xs 24 8))), (8, .long (lN (nb xs 16 8))), (6, .long (lN (nb xs 8 8))), (5, .int (nI (sqHL (xs.getD 7 0)))), (4, .int (nI (sqTF (pkT xs) (pkL xs)))), (3, .int (bI (hasPB xs))), (0, .ref (tw_ad G 8)), (1, .ref (tw_ad G 1)), (2, .ref (tw_ad G q))] 210 []
          refine TW.sS (S' := tw_uR S q ((([] : List Nat) ++ [(sqB1 (sqTF (pkT xs) (pkL xs)) (sqHL (xs.getD 7 0)) true) % 256] ++ [(0 + (mSrc K (nb xs 8 8) (nb xs 16 8)) * 16 + mGoal K (nb xs 24 8) (nb xs 32 8)) % 256] ++ sqTr (sqTF (pkT xs) (pkL xs)) (pkT xs) (pkL xs) ++ [(xs.getD 7 0) % 256]).take (tw_cap q))) (by rw [tw_uR_uR, tk_tk]) ?_
          refine tw_iload C dX8_write_210 2 rfl ?_
          refine tw_lload C dX8_write_212 6 rfl ?_
          refine tw_lload C dX8_write_214 5 rfl ?_
          refine tw_aload_n C dX8_write_216 12 rfl ?_
          refine tw_callS (As := [.int (nI (mSrc K (nb xs 8 8) (nb xs 16 8))), .long (lN (nb xs 8 8)), .long (lN (nb xs 16 8)), .ref (tw_ad G q)]) (rest := []) C N (c_X8_writeAddress hG hq (ys := (([] : List Nat) ++ [(sqB1 (sqTF (pkT xs) (pkL xs)) (sqHL (xs.getD 7 0)) true) % 256] ++ [(0 + (mSrc K (nb xs 8 8) (nb xs 16 8)) * 16 + mGoal K (nb xs 24 8) (nb xs 32 8)) % 256] ++ sqTr (sqTF (pkT xs) (pkL xs)) (pkT xs) (pkL xs) ++ [(xs.getD 7 0) % 256]).take (tw_cap q)) (tq_uR_same _ _ _) (m := mSrc K (nb xs 8 8) (nb xs 16 8)) (f := nb xs 8 8) (l := nb xs 16 8) (by omega) (by omega) (by omega)) mm_X8_writeAddress wd_362 rfl (by decide) rfl (Nat.le_of_ble_eq_true rfl) dX8_write_217 ?_
          rintro _ _ rfl
          show TW G X (tw_uR (tw_uR S q ((([] : List Nat) ++ [(sqB1 (sqTF (pkT xs) (pkL xs)) (sqHL (xs.getD 7 0)) true) % 256] ++ [(0 + (mSrc K (nb xs 8 8) (nb xs 16 8)) * 16 + mGoal K (nb xs 24 8) (nb xs 32 8)) % 256] ++ sqTr (sqTF (pkT xs) (pkL xs)) (pkT xs) (pkL xs) ++ [(xs.getD 7 0) % 256]).take (tw_cap q))) q ((((([] : List Nat) ++ [(sqB1 (sqTF (pkT xs) (pkL xs)) (sqHL (xs.getD 7 0)) true) % 256] ++ [(0 + (mSrc K (nb xs 8 8) (nb xs 16 8)) * 16 + mGoal K (nb xs 24 8) (nb xs 32 8)) % 256] ++ sqTr (sqTF (pkT xs) (pkL xs)) (pkT xs) (pkL xs) ++ [(xs.getD 7 0) % 256]).take (tw_cap q)) ++ sqAd (mSrc K (nb xs 8 8) (nb xs 16 8)) (nb xs 8 8) (nb xs 16 8)).take (tw_cap q))) [(16, .int (nI ((16 * (ctxN K (mSrc K (nb xs 8 8) (nb xs 16 8)) (nb xs 8 8))) + (ctxN K (mGoal K (nb xs 24 8) (nb xs 32 8)) (nb xs 24 8))))), (15, .int (nI (mGoal K (nb xs 24 8) (nb xs 32 8)))), (14, .int (nI (mSrc K (nb xs 8 8) (nb xs 16 8)))), (12, .long (lN (nb xs 32 8))), (10, .long (lN (nb xs 24 8))), (8, .long (lN (nb xs 16 8))), (6, .long (lN (nb xs 8 8))), (5, .int (nI (sqHL (xs.getD 7 0)))), (4, .int (nI (sqTF (pkT xs) (pkL xs)))), (3, .int (bI (hasPB xs))), (0, .ref (tw_ad G 8)), (1, .ref (tw_ad G 1)), (2, .ref (tw_ad G q))] 220 []
          refine TW.sS (S' := tw_uR S q ((([] : List Nat) ++ [(sqB1 (sqTF (pkT xs) (pkL xs)) (sqHL (xs.getD 7 0)) true) % 256] ++ [(0 + (mSrc K (nb xs 8 8) (nb xs 16 8)) * 16 + mGoal K (nb xs 24 8) (nb xs 32 8)) % 256] ++ sqTr (sqTF (pkT xs) (pkL xs)) (pkT xs) (pkL xs) ++ [(xs.getD 7 0) % 256] ++ sqAd (mSrc K (nb xs 8 8) (nb xs 16 8)) (nb xs 8 8) (nb xs 16 8)).take (tw_cap q))) (by rw [tw_uR_uR, tk_tk]) ?_
          refine tw_iload C dX8_write_220 1 rfl ?_
          refine tw_lload C dX8_write_222 4 rfl ?_
          refine tw_lload C dX8_write_224 3 rfl ?_
          refine tw_aload_n C dX8_write_226 12 rfl ?_
          refine tw_callS (As := [.int (nI (mGoal K (nb xs 24 8) (nb xs 32 8))), .long (lN (nb xs 24 8)), .long (lN (nb xs 32 8)), .ref (tw_ad G q)]) (rest := []) C N (c_X8_writeAddress hG hq (ys := (([] : List Nat) ++ [(sqB1 (sqTF (pkT xs) (pkL xs)) (sqHL (xs.getD 7 0)) true) % 256] ++ [(0 + (mSrc K (nb xs 8 8) (nb xs 16 8)) * 16 + mGoal K (nb xs 24 8) (nb xs 32 8)) % 256] ++ sqTr (sqTF (pkT xs) (pkL xs)) (pkT xs) (pkL xs) ++ [(xs.getD 7 0) % 256] ++ sqAd (mSrc K (nb xs 8 8) (nb xs 16 8)) (nb xs 8 8) (nb xs 16 8)).take (tw_cap q)) (tq_uR_same _ _ _) (m := mGoal K (nb xs 24 8) (nb xs 32 8)) (f := nb xs 24 8) (l := nb xs 32 8) (by omega) (by omega) (by omega)) mm_X8_writeAddress wd_362 rfl (by decide) rfl (Nat.le_of_ble_eq_true rfl) dX8_write_227 ?_
          rintro _ _ rfl
          show TW G X (tw_uR (tw_uR S q ((([] : List Nat) ++ [(sqB1 (sqTF (pkT xs) (pkL xs)) (sqHL (xs.getD 7 0)) true) % 256] ++ [(0 + (mSrc K (nb xs 8 8) (nb xs 16 8)) * 16 + mGoal K (nb xs 24 8) (nb xs 32 8)) % 256] ++ sqTr (sqTF (pkT xs) (pkL xs)) (pkT xs) (pkL xs) ++ [(xs.getD 7 0) % 256] ++ sqAd (mSrc K (nb xs 8 8) (nb xs 16 8)) (nb xs 8 8) (nb xs 16 8)).take (tw_cap q))) q ((((([] : List Nat) ++ [(sqB1 (sqTF (pkT xs) (pkL xs)) (sqHL (xs.getD 7 0)) true) % 256] ++ [(0 + (mSrc K (nb xs 8 8) (nb xs 16 8)) * 16 + mGoal K (nb xs 24 8) (nb xs 32 8)) % 256] ++ sqTr (sqTF (pkT xs) (pkL xs)) (pkT xs) (pkL xs) ++ [(xs.getD 7 0) % 256] ++ sqAd (mSrc K (nb xs 8 8) (nb xs 16 8)) (nb xs 8 8) (nb xs 16 8)).take (tw_cap q)) ++ sqAd (mGoal K (nb xs 24 8) (nb xs 32 8)) (nb xs 24 8) (nb xs 32 8)).take (tw_cap q))) [(16, .int (nI ((16 * (ctxN K (mSrc K (nb xs 8 8) (nb xs 16 8)) (nb xs 8 8))) + (ctxN K (mGoal K (nb xs 24 8) (nb xs 32 8)) (nb xs 24 8))))), (15, .int (nI (mGoal K (nb xs 24 8) (nb xs 32 8)))), (14, .int (nI (mSrc K (nb xs 8 8) (nb xs 16 8)))), (12, .long (lN (nb xs 32 8))), (10, .long (lN (nb xs 24 8))), (8, .long (lN (nb xs 16 8))), (6, .long (lN (nb xs 8 8))), (5, .int (nI (sqHL (xs.getD 7 0)))), (4, .int (nI (sqTF (pkT xs) (pkL xs)))), (3, .int (bI (hasPB xs))), (0, .ref (tw_ad G 8)), (1, .ref (tw_ad G 1)), (2, .ref (tw_ad G q))] 230 []
          refine TW.sS (S' := tw_uR S q ((([] : List Nat) ++ [(sqB1 (sqTF (pkT xs) (pkL xs)) (sqHL (xs.getD 7 0)) true) % 256] ++ [(0 + (mSrc K (nb xs 8 8) (nb xs 16 8)) * 16 + mGoal K (nb xs 24 8) (nb xs 32 8)) % 256] ++ sqTr (sqTF (pkT xs) (pkL xs)) (pkT xs) (pkL xs) ++ [(xs.getD 7 0) % 256] ++ sqAd (mSrc K (nb xs 8 8) (nb xs 16 8)) (nb xs 8 8) (nb xs 16 8) ++ sqAd (mGoal K (nb xs 24 8) (nb xs 32 8)) (nb xs 24 8) (nb xs 32 8)).take (tw_cap q))) (by rw [tw_uR_uR, tk_tk]) ?_
          refine tw_iload_n C dX8_write_230 9 rfl ?_
          refine tb_if_eq C dX8_write_231 (tgt := 239) (by decide) (fun cb => ?_) (fun cb => ?_)
          · exact absurd cb (by simp [hpb])
          refine tw_aload_n C dX8_write_234 11 rfl ?_
          refine tw_aload_n C dX8_write_235 12 rfl ?_
          refine tw_callS (As := [.ref (tw_ad G 1), .ref (tw_ad G q)]) (rest := []) C N (c_X8_writePorts hG hq hq1 (xs := xs) (ys := (([] : List Nat) ++ [(sqB1 (sqTF (pkT xs) (pkL xs)) (sqHL (xs.getD 7 0)) true) % 256] ++ [(0 + (mSrc K (nb xs 8 8) (nb xs 16 8)) * 16 + mGoal K (nb xs 24 8) (nb xs 32 8)) % 256] ++ sqTr (sqTF (pkT xs) (pkL xs)) (pkT xs) (pkL xs) ++ [(xs.getD 7 0) % 256] ++ sqAd (mSrc K (nb xs 8 8) (nb xs 16 8)) (nb xs 8 8) (nb xs 16 8) ++ sqAd (mGoal K (nb xs 24 8) (nb xs 32 8)) (nb xs 24 8) (nb xs 32 8)).take (tw_cap q)) ((tq_uR_ne _ _ hq1).trans hx) (tq_uR_same _ _ _)) mm_X8_writePorts wd_369 rfl (by decide) rfl (Nat.le_of_ble_eq_true rfl) dX8_write_236 ?_
          rintro _ _ rfl
          show TW G X (tw_uR (tw_uR S q ((([] : List Nat) ++ [(sqB1 (sqTF (pkT xs) (pkL xs)) (sqHL (xs.getD 7 0)) true) % 256] ++ [(0 + (mSrc K (nb xs 8 8) (nb xs 16 8)) * 16 + mGoal K (nb xs 24 8) (nb xs 32 8)) % 256] ++ sqTr (sqTF (pkT xs) (pkL xs)) (pkT xs) (pkL xs) ++ [(xs.getD 7 0) % 256] ++ sqAd (mSrc K (nb xs 8 8) (nb xs 16 8)) (nb xs 8 8) (nb xs 16 8) ++ sqAd (mGoal K (nb xs 24 8) (nb xs 32 8)) (nb xs 24 8) (nb xs 32 8)).take (tw_cap q))) q ((((([] : List Nat) ++ [(sqB1 (sqTF (pkT xs) (pkL xs)) (sqHL (xs.getD 7 0)) true) % 256] ++ [(0 + (mSrc K (nb xs 8 8) (nb xs 16 8)) * 16 + mGoal K (nb xs 24 8) (nb xs 32 8)) % 256] ++ sqTr (sqTF (pkT xs) (pkL xs)) (pkT xs) (pkL xs) ++ [(xs.getD 7 0) % 256] ++ sqAd (mSrc K (nb xs 8 8) (nb xs 16 8)) (nb xs 8 8) (nb xs 16 8) ++ sqAd (mGoal K (nb xs 24 8) (nb xs 32 8)) (nb xs 24 8) (nb xs 32 8)).take (tw_cap q)) ++ sqPo (nb xs 40 2) (nb xs 42 2) (nb xs 46 2)).take (tw_cap q))) [(16, .int (nI ((16 * (ctxN K (mSrc K (nb xs 8 8) (nb xs 16 8)) (nb xs 8 8))) + (ctxN K (mGoal K (nb xs 24 8) (nb xs 32 8)) (nb xs 24 8))))), (15, .int (nI (mGoal K (nb xs 24 8) (nb xs 32 8)))), (14, .int (nI (mSrc K (nb xs 8 8) (nb xs 16 8)))), (12, .long (lN (nb xs 32 8))), (10, .long (lN (nb xs 24 8))), (8, .long (lN (nb xs 16 8))), (6, .long (lN (nb xs 8 8))), (5, .int (nI (sqHL (xs.getD 7 0)))), (4, .int (nI (sqTF (pkT xs) (pkL xs)))), (3, .int (bI (hasPB xs))), (0, .ref (tw_ad G 8)), (1, .ref (tw_ad G 1)), (2, .ref (tw_ad G q))] 239 []
          refine TW.sS (S' := tw_uR S q ((([] : List Nat) ++ [(sqB1 (sqTF (pkT xs) (pkL xs)) (sqHL (xs.getD 7 0)) true) % 256] ++ [(0 + (mSrc K (nb xs 8 8) (nb xs 16 8)) * 16 + mGoal K (nb xs 24 8) (nb xs 32 8)) % 256] ++ sqTr (sqTF (pkT xs) (pkL xs)) (pkT xs) (pkL xs) ++ [(xs.getD 7 0) % 256] ++ sqAd (mSrc K (nb xs 8 8) (nb xs 16 8)) (nb xs 8 8) (nb xs 16 8) ++ sqAd (mGoal K (nb xs 24 8) (nb xs 32 8)) (nb xs 24 8) (nb xs 32 8) ++ sqPo (nb xs 40 2) (nb xs 42 2) (nb xs 46 2)).take (tw_cap q))) (by rw [tw_uR_uR, tk_tk]) ?_
          refine TW.sS (S' := tw_uR S q ((sqHd K xs).take (tw_cap q))) (by congr 2; simp only [sqHd, sqB2, hpb, if_pos hc0, if_pos hl0, hm1, hm2, hm2z, hm3, hm6, hm7, if_true, if_false, Bool.false_eq_true, List.nil_append, List.append_nil, List.append_assoc]) ?_
          refine tw_aload_n C dX8_write_239 12 rfl ?_
          refine tw_callV (As := []) (rest := []) C N (e_X7_length hG hq (xs := (sqHd K xs).take (tw_cap q)) (tq_uR_same _ _ _) ) mm_X7_length wd_372 rfl (hG _ (tw_row_lt hq).2) (tw_row_sh hq) rfl (by decide) rfl (Nat.le_of_ble_eq_true rfl) dX8_write_240 ?_
          rintro _ _ ⟨rfl, rfl⟩
          show TW G X (tw_uR S q ((sqHd K xs).take (tw_cap q))) [(16, .int (nI ((16 * (ctxN K (mSrc K (nb xs 8 8) (nb xs 16 8)) (nb xs 8 8))) + (ctxN K (mGoal K (nb xs 24 8) (nb xs 32 8)) (nb xs 24 8))))), (15, .int (nI (mGoal K (nb xs 24 8) (nb xs 32 8)))), (14, .int (nI (mSrc K (nb xs 8 8) (nb xs 16 8)))), (12, .long (lN (nb xs 32 8))), (10, .long (lN (nb xs 24 8))), (8, .long (lN (nb xs 16 8))), (6, .long (lN (nb xs 8 8))), (5, .int (nI (sqHL (xs.getD 7 0)))), (4, .int (nI (sqTF (pkT xs) (pkL xs)))), (3, .int (bI (hasPB xs))), (0, .ref (tw_ad G 8)), (1, .ref (tw_ad G 1)), (2, .ref (tw_ad G q))] 243 [.int (nI (((sqHd K xs).take (tw_cap q)).length))]
          refine tw_istore (L' := [(17, .int (nI (((sqHd K xs).take (tw_cap q)).length))), (16, .int (nI ((16 * (ctxN K (mSrc K (nb xs 8 8) (nb xs 16 8)) (nb xs 8 8))) + (ctxN K (mGoal K (nb xs 24 8) (nb xs 32 8)) (nb xs 24 8))))), (15, .int (nI (mGoal K (nb xs 24 8) (nb xs 32 8)))), (14, .int (nI (mSrc K (nb xs 8 8) (nb xs 16 8)))), (12, .long (lN (nb xs 32 8))), (10, .long (lN (nb xs 24 8))), (8, .long (lN (nb xs 16 8))), (6, .long (lN (nb xs 8 8))), (5, .int (nI (sqHL (xs.getD 7 0)))), (4, .int (nI (sqTF (pkT xs) (pkL xs)))), (3, .int (bI (hasPB xs))), (0, .ref (tw_ad G 8)), (1, .ref (tw_ad G 1)), (2, .ref (tw_ad G q))]) C N dX8_write_243 (i := 17) (by decide) rfl ?_
          refine tw_aload_n C dX8_write_245 13 rfl ?_
          refine tw_aload_n C dX8_write_246 12 rfl ?_
          refine tw_aload_n C dX8_write_247 12 rfl ?_
          refine tw_callS (As := [.ref (tw_ad G 1)]) (rest := [.ref (tw_ad G 1), .ref (tw_ad G q)]) C N (c_X5_headOf hG tw_row1 (xs := xs) ((tq_uR_ne _ _ hq1).trans hx)) mm_X5_headOf wd_373 rfl (by decide) rfl (Nat.le_of_ble_eq_true rfl) dX8_write_248 ?_
          rintro _ _ ⟨rfl, rfl⟩
          show TW G X (tw_uR S q ((sqHd K xs).take (tw_cap q))) [(17, .int (nI (((sqHd K xs).take (tw_cap q)).length))), (16, .int (nI ((16 * (ctxN K (mSrc K (nb xs 8 8) (nb xs 16 8)) (nb xs 8 8))) + (ctxN K (mGoal K (nb xs 24 8) (nb xs 32 8)) (nb xs 24 8))))), (15, .int (nI (mGoal K (nb xs 24 8) (nb xs 32 8)))), (14, .int (nI (mSrc K (nb xs 8 8) (nb xs 16 8)))), (12, .long (lN (nb xs 32 8))), (10, .long (lN (nb xs 24 8))), (8, .long (lN (nb xs 16 8))), (6, .long (lN (nb xs 8 8))), (5, .int (nI (sqHL (xs.getD 7 0)))), (4, .int (nI (sqTF (pkT xs) (pkL xs)))), (3, .int (bI (hasPB xs))), (0, .ref (tw_ad G 8)), (1, .ref (tw_ad G 1)), (2, .ref (tw_ad G q))] 251 [.int (nI (pkH xs)), .ref (tw_ad G 1), .ref (tw_ad G q)]
          refine tw_aload_n C dX8_write_251 12 rfl ?_
          refine tw_callV (As := []) (rest := [.int (nI (pkH xs)), .ref (tw_ad G 1), .ref (tw_ad G q)]) C N (e_X7_length hG tw_row1 (xs := xs) ((tq_uR_ne _ _ hq1).trans hx) ) mm_X7_length wd_372 rfl (hG 1 (by decide)) sh_1 rfl (by decide) rfl (Nat.le_of_ble_eq_true rfl) dX8_write_252 ?_
          rintro _ _ ⟨rfl, rfl⟩
          show TW G X (tw_uR S q ((sqHd K xs).take (tw_cap q))) [(17, .int (nI (((sqHd K xs).take (tw_cap q)).length))), (16, .int (nI ((16 * (ctxN K (mSrc K (nb xs 8 8) (nb xs 16 8)) (nb xs 8 8))) + (ctxN K (mGoal K (nb xs 24 8) (nb xs 32 8)) (nb xs 24 8))))), (15, .int (nI (mGoal K (nb xs 24 8) (nb xs 32 8)))), (14, .int (nI (mSrc K (nb xs 8 8) (nb xs 16 8)))), (12, .long (lN (nb xs 32 8))), (10, .long (lN (nb xs 24 8))), (8, .long (lN (nb xs 16 8))), (6, .long (lN (nb xs 8 8))), (5, .int (nI (sqHL (xs.getD 7 0)))), (4, .int (nI (sqTF (pkT xs) (pkL xs)))), (3, .int (bI (hasPB xs))), (0, .ref (tw_ad G 8)), (1, .ref (tw_ad G 1)), (2, .ref (tw_ad G q))] 255 [.int (nI xs.length), .int (nI (pkH xs)), .ref (tw_ad G 1), .ref (tw_ad G q)]
          have hphp : pkH xs ≤ 48 := by unfold pkH; split <;> omega
          refine tw_callV (As := [.ref (tw_ad G 1), .int (nI (pkH xs)), .int (nI xs.length)]) (rest := []) C N (e_X7_addAll hG hq (xs := (sqHd K xs).take (tw_cap q)) (tq_uR_same _ _ _) tw_row1 hq1 (ys := xs) ((tq_uR_ne _ _ hq1).trans hx) (a := pkH xs) (e := xs.length) (by omega) (by omega)) mm_X7_addAll wd_377 rfl (hG _ (tw_row_lt hq).2) (tw_row_sh hq) rfl (by decide) rfl (Nat.le_of_ble_eq_true rfl) dX8_write_255 ?_
          rintro _ _ rfl
          show TW G X (tw_uR (tw_uR S q ((sqHd K xs).take (tw_cap q))) q ((((sqHd K xs).take (tw_cap q)) ++ cutD xs (pkH xs) (xs.length - (pkH xs))).take (tw_cap q))) [(17, .int (nI (((sqHd K xs).take (tw_cap q)).length))), (16, .int (nI ((16 * (ctxN K (mSrc K (nb xs 8 8) (nb xs 16 8)) (nb xs 8 8))) + (ctxN K (mGoal K (nb xs 24 8) (nb xs 32 8)) (nb xs 24 8))))), (15, .int (nI (mGoal K (nb xs 24 8) (nb xs 32 8)))), (14, .int (nI (mSrc K (nb xs 8 8) (nb xs 16 8)))), (12, .long (lN (nb xs 32 8))), (10, .long (lN (nb xs 24 8))), (8, .long (lN (nb xs 16 8))), (6, .long (lN (nb xs 8 8))), (5, .int (nI (sqHL (xs.getD 7 0)))), (4, .int (nI (sqTF (pkT xs) (pkL xs)))), (3, .int (bI (hasPB xs))), (0, .ref (tw_ad G 8)), (1, .ref (tw_ad G 1)), (2, .ref (tw_ad G q))] 258 []
          refine TW.sS (S' := tw_uR S q ((sqHd K xs ++ cutD xs (pkH xs) (xs.length - (pkH xs))).take (tw_cap q))) (by rw [tw_uR_uR, tk_tk]) ?_
          refine tw_iload C dX8_write_258 0 rfl ?_
          exact tw_ireturn C Q dX8_write_260 rfl rfl rfl ⟨by rw [List.length_take, Nat.min_eq_right (by omega)], rfl⟩
        · exact absurd cb (by simp [hpb])
      · exact absurd cc (by omega)
    · exact absurd cc (by omega)
  · skip
    refine tw_bipush C dX8_write_116 (v := nI 96) (by decide) ?_
    refine tw_iload C dX8_write_118 8 rfl ?_
    refine tw_iconst C dX8_write_120 (v := nI 3) (by decide) ?_
    refine tw_ishl C dX8_write_121 (v := nI ((sqTF (pkT xs) (pkL xs)) * 8)) (nI_shl _ 3 (by decide)) ?_
    refine tw_ior C dX8_write_122 (v := nI (96 ||| ((sqTF (pkT xs) (pkL xs)) * 8))) (nI_or _ _) ?_
    refine tw_iload_n C dX8_write_123 9 rfl ?_
    refine tb_if_eq C dX8_write_124 (tgt := 131) (by decide) (fun cb => ?_) (fun cb => ?_)
    · exact absurd cb (by simp [hpb])
    refine tw_iconst C dX8_write_127 (v := nI 4) (by decide) ?_
    refine tw_goto C dX8_write_128 (tgt := 132) (by decide) ?_
    refine tw_ior C dX8_write_132 (v := nI ((96 ||| ((sqTF (pkT xs) (pkL xs)) * 8)) ||| 4)) (nI_or _ _) ?_
    refine tw_iload C dX8_write_133 7 rfl ?_
    refine tw_ior C dX8_write_135 (v := nI (sqB1 (sqTF (pkT xs) (pkL xs)) (sqHL (xs.getD 7 0)) true)) (by rw [nI_or, (sqB1_or _ (sqTF_lt _ _) _ (sqHL_lt _)).1]) ?_
    refine tw_callV (As := [.int (nI (sqB1 (sqTF (pkT xs) (pkL xs)) (sqHL (xs.getD 7 0)) true))]) (rest := []) C N (e_X7_add hG hq (xs := (([] : List Nat)).take (tw_cap q)) (tq_uR_same _ _ _) (x := sqB1 (sqTF (pkT xs) (pkL xs)) (sqHL (xs.getD 7 0)) true)) mm_X7_add wd_357 rfl (hG _ (tw_row_lt hq).2) (tw_row_sh hq) rfl (by decide) rfl (Nat.le_of_ble_eq_true rfl) dX8_write_136 ?_
    rintro _ _ rfl
    show TW G X (tw_uR (tw_uR S q ((([] : List Nat)).take (tw_cap q))) q ((((([] : List Nat)).take (tw_cap q)) ++ [(sqB1 (sqTF (pkT xs) (pkL xs)) (sqHL (xs.getD 7 0)) true) % 256]).take (tw_cap q))) [(16, .int (nI ((16 * (ctxN K (mSrc K (nb xs 8 8) (nb xs 16 8)) (nb xs 8 8))) + (ctxN K (mGoal K (nb xs 24 8) (nb xs 32 8)) (nb xs 24 8))))), (15, .int (nI (mGoal K (nb xs 24 8) (nb xs 32 8)))), (14, .int (nI (mSrc K (nb xs 8 8) (nb xs 16 8)))), (12, .long (lN (nb xs 32 8))), (10, .long (lN (nb xs 24 8))), (8, .long (lN (nb xs 16 8))), (6, .long (lN (nb xs 8 8))), (5, .int (nI (sqHL (xs.getD 7 0)))), (4, .int (nI (sqTF (pkT xs) (pkL xs)))), (3, .int (bI (hasPB xs))), (0, .ref (tw_ad G 8)), (1, .ref (tw_ad G 1)), (2, .ref (tw_ad G q))] 139 []
    refine TW.sS (S' := tw_uR S q ((([] : List Nat) ++ [(sqB1 (sqTF (pkT xs) (pkL xs)) (sqHL (xs.getD 7 0)) true) % 256]).take (tw_cap q))) (by rw [tw_uR_uR, tk_tk]) ?_
    refine tw_aload_n C dX8_write_139 12 rfl ?_
    refine tw_iload C dX8_write_140 0 rfl ?_
    refine tn_if_eq C dX8_write_142 (tgt := 151) (by decide) (by omega) (fun cc => ?_) (fun cc => ?_)
    · skip
      refine tw_iconst C dX8_write_151 (v := nI 0) (by decide) ?_
      refine tw_iload C dX8_write_152 2 rfl ?_
      refine tw_iconst C dX8_write_154 (v := nI 4) (by decide) ?_
      refine tw_ishl C dX8_write_155 (v := nI ((mSrc K (nb xs 8 8) (nb xs 16 8)) * 16)) (nI_shl _ 4 (by decide)) ?_
      refine tw_ior C dX8_write_156 (v := nI (0 ||| ((mSrc K (nb xs 8 8) (nb xs 16 8)) * 16))) (nI_or _ _) ?_
      refine tw_iload C dX8_write_157 1 rfl ?_
      refine tw_ior C dX8_write_159 (v := nI (0 + (mSrc K (nb xs 8 8) (nb xs 16 8)) * 16 + mGoal K (nb xs 24 8) (nb xs 32 8))) (by rw [nI_or, (sqB2_or _ (by omega) _ (by omega)).2.1]) ?_
      refine tw_callV (As := [.int (nI (0 + (mSrc K (nb xs 8 8) (nb xs 16 8)) * 16 + mGoal K (nb xs 24 8) (nb xs 32 8)))]) (rest := []) C N (e_X7_add hG hq (xs := (([] : List Nat) ++ [(sqB1 (sqTF (pkT xs) (pkL xs)) (sqHL (xs.getD 7 0)) true) % 256]).take (tw_cap q)) (tq_uR_same _ _ _) (x := 0 + (mSrc K (nb xs 8 8) (nb xs 16 8)) * 16 + mGoal K (nb xs 24 8) (nb xs 32 8))) mm_X7_add wd_357 rfl (hG _ (tw_row_lt hq).2) (tw_row_sh hq) rfl (by decide) rfl (Nat.le_of_ble_eq_true rfl) dX8_write_160 ?_
      rintro _ _ rfl
      show TW G X (tw_uR (tw_uR S q ((([] : List Nat) ++ [(sqB1 (sqTF (pkT xs) (pkL xs)) (sqHL (xs.getD 7 0)) true) % 256]).take (tw_cap q))) q ((((([] : List Nat) ++ [(sqB1 (sqTF (pkT xs) (pkL xs)) (sqHL (xs.getD 7 0)) true) % 256]).take (tw_cap q)) ++ [(0 + (mSrc K (nb xs 8 8) (nb xs 16 8)) * 16 + mGoal K (nb xs 24 8) (nb xs 32 8)) % 256]).take (tw_cap q))) [(16, .int (nI ((16 * (ctxN K (mSrc K (nb xs 8 8) (nb xs 16 8)) (nb xs 8 8))) + (ctxN K (mGoal K (nb xs 24 8) (nb xs 32 8)) (nb xs 24 8))))), (15, .int (nI (mGoal K (nb xs 24 8) (nb xs 32 8)))), (14, .int (nI (mSrc K (nb xs 8 8) (nb xs 16 8)))), (12, .long (lN (nb xs 32 8))), (10, .long (lN (nb xs 24 8))), (8, .long (lN (nb xs 16 8))), (6, .long (lN (nb xs 8 8))), (5, .int (nI (sqHL (xs.getD 7 0)))), (4, .int (nI (sqTF (pkT xs) (pkL xs)))), (3, .int (bI (hasPB xs))), (0, .ref (tw_ad G 8)), (1, .ref (tw_ad G 1)), (2, .ref (tw_ad G q))] 163 []
      refine TW.sS (S' := tw_uR S q ((([] : List Nat) ++ [(sqB1 (sqTF (pkT xs) (pkL xs)) (sqHL (xs.getD 7 0)) true) % 256] ++ [(0 + (mSrc K (nb xs 8 8) (nb xs 16 8)) * 16 + mGoal K (nb xs 24 8) (nb xs 32 8)) % 256]).take (tw_cap q))) (by rw [tw_uR_uR, tk_tk]) ?_
      refine tw_iload C dX8_write_163 0 rfl ?_
      refine tn_if_eq C dX8_write_165 (tgt := 174) (by decide) (by omega) (fun cc => ?_) (fun cc => ?_)
      · skip
        refine tw_aload_n C dX8_write_174 11 rfl ?_
        refine tw_iload C dX8_write_175 8 rfl ?_
        refine tw_aload_n C dX8_write_177 12 rfl ?_
        refine tw_callS (As := [.ref (tw_ad G 1), .int (nI (sqTF (pkT xs) (pkL xs))), .ref (tw_ad G q)]) (rest := []) C N (c_X8_writeTraffic hG hq hq1 (xs := xs) (ys := (([] : List Nat) ++ [(sqB1 (sqTF (pkT xs) (pkL xs)) (sqHL (xs.getD 7 0)) true) % 256] ++ [(0 + (mSrc K (nb xs 8 8) (nb xs 16 8)) * 16 + mGoal K (nb xs 24 8) (nb xs 32 8)) % 256]).take (tw_cap q)) ((tq_uR_ne _ _ hq1).trans hx) (tq_uR_same _ _ _) (tf := sqTF (pkT xs) (pkL xs)) (sqTF_lt _ _) sqTF_1) mm_X8_writeTraffic wd_358 rfl (by decide) rfl (Nat.le_of_ble_eq_true rfl) dX8_write_178 ?_
        rintro _ _ rfl
        show TW G X (tw_uR (tw_uR S q ((([] : List Nat) ++ [(sqB1 (sqTF (pkT xs) (pkL xs)) (sqHL (xs.getD 7 0)) true) % 256] ++ [(0 + (mSrc K (nb xs 8 8) (nb xs 16 8)) * 16 + mGoal K (nb xs 24 8) (nb xs 32 8)) % 256]).take (tw_cap q))) q ((((([] : List Nat) ++ [(sqB1 (sqTF (pkT xs) (pkL xs)) (sqHL (xs.getD 7 0)) true) % 256] ++ [(0 + (mSrc K (nb xs 8 8) (nb xs 16 8)) * 16 + mGoal K (nb xs 24 8) (nb xs 32 8)) % 256]).take (tw_cap q)) ++ sqTr (sqTF (pkT xs) (pkL xs)) (pkT xs) (pkL xs)).take (tw_cap q))) [(16, .int (nI ((16 * (ctxN K (mSrc K (nb xs 8 8) (nb xs 16 8)) (nb xs 8 8))) + (ctxN K (mGoal K (nb xs 24 8) (nb xs 32 8)) (nb xs 24 8))))), (15, .int (nI (mGoal K (nb xs 24 8) (nb xs 32 8)))), (14, .int (nI (mSrc K (nb xs 8 8) (nb xs 16 8)))), (12, .long (lN (nb xs 32 8))), (10, .long (lN (nb xs 24 8))), (8, .long (lN (nb xs 16 8))), (6, .long (lN (nb xs 8 8))), (5, .int (nI (sqHL (xs.getD 7 0)))), (4, .int (nI (sqTF (pkT xs) (pkL xs)))), (3, .int (bI (hasPB xs))), (0, .ref (tw_ad G 8)), (1, .ref (tw_ad G 1)), (2, .ref (tw_ad G q))] 181 []
        refine TW.sS (S' := tw_uR S q ((([] : List Nat) ++ [(sqB1 (sqTF (pkT xs) (pkL xs)) (sqHL (xs.getD 7 0)) true) % 256] ++ [(0 + (mSrc K (nb xs 8 8) (nb xs 16 8)) * 16 + mGoal K (nb xs 24 8) (nb xs 32 8)) % 256] ++ sqTr (sqTF (pkT xs) (pkL xs)) (pkT xs) (pkL xs)).take (tw_cap q))) (by rw [tw_uR_uR, tk_tk]) ?_
        refine tw_iload_n C dX8_write_181 9 rfl ?_
        refine tb_if_ne C dX8_write_182 (tgt := 195) (by decide) (fun cb => ?_) (fun cb => ?_)
        · skip
          refine tw_iload C dX8_write_195 7 rfl ?_
          refine tn_if_ne C dX8_write_197 (tgt := 210) (by decide) (by omega) (fun ch => ?_) (fun ch => ?_)
          · skip
            refine tw_iload C dX8_write_210 2 rfl ?_
            refine tw_lload C dX8_write_212 6 rfl ?_
            refine tw_lload C dX8_write_214 5 rfl ?_
            refine tw_aload_n C dX8_write_216 12 rfl ?_
            refine tw_callS (As := [.int (nI (mSrc K (nb xs 8 8) (nb xs 16 8))), .long (lN (nb xs 8 8)), .long (lN (nb xs 16 8)), .ref (tw_ad G q)]) (rest := []) C N (c_X8_writeAddress hG hq (ys := (([] : List Nat) ++ [(sqB1 (sqTF (pkT xs) (pkL xs)) (sqHL (xs.getD 7 0)) true) % 256] ++ [(0 + (mSrc K (nb xs 8 8) (nb xs 16 8)) * 16 + mGoal K (nb xs 24 8) (nb xs 32 8)) % 256] ++ sqTr (sqTF (pkT xs) (pkL xs)) (pkT xs) (pkL xs)).take (tw_cap q)) (tq_uR_same _ _ _) (m := mSrc K (nb xs 8 8) (nb xs 16 8)) (f := nb xs 8 8) (l := nb xs 16 8) (by omega) (by omega) (by omega)) mm_X8_writeAddress wd_362 rfl (by decide) rfl (Nat.le_of_ble_eq_true rfl) dX8_write_217 ?_
            rintro _ _ rfl
            show TW G X (tw_uR (tw_uR S q ((([] : List Nat) ++ [(sqB1 (sqTF (pkT xs) (pkL xs)) (sqHL (xs.getD 7 0)) true) % 256] ++ [(0 + (mSrc K (nb xs 8 8) (nb xs 16 8)) * 16 + mGoal K (nb xs 24 8) (nb xs 32 8)) % 256] ++ sqTr (sqTF (pkT xs) (pkL xs)) (pkT xs) (pkL xs)).take (tw_cap q))) q ((((([] : List Nat) ++ [(sqB1 (sqTF (pkT xs) (pkL xs)) (sqHL (xs.getD 7 0)) true) % 256] ++ [(0 + (mSrc K (nb xs 8 8) (nb xs 16 8)) * 16 + mGoal K (nb xs 24 8) (nb xs 32 8)) % 256] ++ sqTr (sqTF (pkT xs) (pkL xs)) (pkT xs) (pkL xs)).take (tw_cap q)) ++ sqAd (mSrc K (nb xs 8 8) (nb xs 16 8)) (nb xs 8 8) (nb xs 16 8)).take (tw_cap q))) [(16, .int (nI ((16 * (ctxN K (mSrc K (nb xs 8 8) (nb xs 16 8)) (nb xs 8 8))) + (ctxN K (mGoal K (nb xs 24 8) (nb xs 32 8)) (nb xs 24 8))))), (15, .int (nI (mGoal K (nb xs 24 8) (nb xs 32 8)))), (14, .int (nI (mSrc K (nb xs 8 8) (nb xs 16 8)))), (12, .long (lN (nb xs 32 8))), (10, .long (lN (nb xs 24 8))), (8, .long (lN (nb xs 16 8))), (6, .long (lN (nb xs 8 8))), (5, .int (nI (sqHL (xs.getD 7 0)))), (4, .int (nI (sqTF (pkT xs) (pkL xs)))), (3, .int (bI (hasPB xs))), (0, .ref (tw_ad G 8)), (1, .ref (tw_ad G 1)), (2, .ref (tw_ad G q))] 220 []
            refine TW.sS (S' := tw_uR S q ((([] : List Nat) ++ [(sqB1 (sqTF (pkT xs) (pkL xs)) (sqHL (xs.getD 7 0)) true) % 256] ++ [(0 + (mSrc K (nb xs 8 8) (nb xs 16 8)) * 16 + mGoal K (nb xs 24 8) (nb xs 32 8)) % 256] ++ sqTr (sqTF (pkT xs) (pkL xs)) (pkT xs) (pkL xs) ++ sqAd (mSrc K (nb xs 8 8) (nb xs 16 8)) (nb xs 8 8) (nb xs 16 8)).take (tw_cap q))) (by rw [tw_uR_uR, tk_tk]) ?_
            refine tw_iload C dX8_write_220 1 rfl ?_
            refine tw_lload C dX8_write_222 4 rfl ?_
            refine tw_lload C dX8_write_224 3 rfl ?_
            refine tw_aload_n C dX8_write_226 12 rfl ?_
            refine tw_callS (As := [.int (nI (mGoal K (nb xs 24 8) (nb xs 32 8))), .long (lN (nb xs 24 8)), .long (lN (nb xs 32 8)), .ref (tw_ad G q)]) (rest := []) C N (c_X8_writeAddress hG hq (ys := (([] : List Nat) ++ [(sqB1 (sqTF (pkT xs) (pkL xs)) (sqHL (xs.getD 7 0)) true) % 256] ++ [(0 + (mSrc K (nb xs 8 8) (nb xs 16 8)) * 16 + mGoal K (nb xs 24 8) (nb xs 32 8)) % 256] ++ sqTr (sqTF (pkT xs) (pkL xs)) (pkT xs) (pkL xs) ++ sqAd (mSrc K (nb xs 8 8) (nb xs 16 8)) (nb xs 8 8) (nb xs 16 8)).take (tw_cap q)) (tq_uR_same _ _ _) (m := mGoal K (nb xs 24 8) (nb xs 32 8)) (f := nb xs 24 8) (l := nb xs 32 8) (by omega) (by omega) (by omega)) mm_X8_writeAddress wd_362 rfl (by decide) rfl (Nat.le_of_ble_eq_true rfl) dX8_write_227 ?_
            rintro _ _ rfl
            show TW G X (tw_uR (tw_uR S q ((([] : List Nat) ++ [(sqB1 (sqTF (pkT xs) (pkL xs)) (sqHL (xs.getD 7 0)) true) % 256] ++ [(0 + (mSrc K (nb xs 8 8) (nb xs 16 8)) * 16 + mGoal K (nb xs 24 8) (nb xs 32 8)) % 256] ++ sqTr (sqTF (pkT xs) (pkL xs)) (pkT xs) (pkL xs) ++ sqAd (mSrc K (nb xs 8 8) (nb xs 16 8)) (nb xs 8 8) (nb xs 16 8)).take (tw_cap q))) q ((((([] : List Nat) ++ [(sqB1 (sqTF (pkT xs) (pkL xs)) (sqHL (xs.getD 7 0)) true) % 256] ++ [(0 + (mSrc K (nb xs 8 8) (nb xs 16 8)) * 16 + mGoal K (nb xs 24 8) (nb xs 32 8)) % 256] ++ sqTr (sqTF (pkT xs) (pkL xs)) (pkT xs) (pkL xs) ++ sqAd (mSrc K (nb xs 8 8) (nb xs 16 8)) (nb xs 8 8) (nb xs 16 8)).take (tw_cap q)) ++ sqAd (mGoal K (nb xs 24 8) (nb xs 32 8)) (nb xs 24 8) (nb xs 32 8)).take (tw_cap q))) [(16, .int (nI ((16 * (ctxN K (mSrc K (nb xs 8 8) (nb xs 16 8)) (nb xs 8 8))) + (ctxN K (mGoal K (nb xs 24 8) (nb xs 32 8)) (nb xs 24 8))))), (15, .int (nI (mGoal K (nb xs 24 8) (nb xs 32 8)))), (14, .int (nI (mSrc K (nb xs 8 8) (nb xs 16 8)))), (12, .long (lN (nb xs 32 8))), (10, .long (lN (nb xs 24 8))), (8, .long (lN (nb xs 16 8))), (6, .long (lN (nb xs 8 8))), (5, .int (nI (sqHL (xs.getD 7 0)))), (4, .int (nI (sqTF (pkT xs) (pkL xs)))), (3, .int (bI (hasPB xs))), (0, .ref (tw_ad G 8)), (1, .ref (tw_ad G 1)), (2, .ref (tw_ad G q))] 230 []
            refine TW.sS (S' := tw_uR S q ((([] : List Nat) ++ [(sqB1 (sqTF (pkT xs) (pkL xs)) (sqHL (xs.getD 7 0)) true) % 256] ++ [(0 + (mSrc K (nb xs 8 8) (nb xs 16 8)) * 16 + mGoal K (nb xs 24 8) (nb xs 32 8)) % 256] ++ sqTr (sqTF (pkT xs) (pkL xs)) (pkT xs) (pkL xs) ++ sqAd (mSrc K (nb xs 8 8) (nb xs 16 8)) (nb xs 8 8) (nb xs 16 8) ++ sqAd (mGoal K (nb xs 24 8) (nb xs 32 8)) (nb xs 24 8) (nb xs 32 8)).take (tw_cap q))) (by rw [tw_uR_uR, tk_tk]) ?_
            refine tw_iload_n C dX8_write_230 9 rfl ?_
            refine tb_if_eq C dX8_write_231 (tgt := 239) (by decide) (fun cb => ?_) (fun cb => ?_)
            · exact absurd cb (by simp [hpb])
            refine tw_aload_n C dX8_write_234 11 rfl ?_
            refine tw_aload_n C dX8_write_235 12 rfl ?_
            refine tw_callS (As := [.ref (tw_ad G 1), .ref (tw_ad G q)]) (rest := []) C N (c_X8_writePorts hG hq hq1 (xs := xs) (ys := (([] : List Nat) ++ [(sqB1 (sqTF (pkT xs) (pkL xs)) (sqHL (xs.getD 7 0)) true) % 256] ++ [(0 + (mSrc K (nb xs 8 8) (nb xs 16 8)) * 16 + mGoal K (nb xs 24 8) (nb xs 32 8)) % 256] ++ sqTr (sqTF (pkT xs) (pkL xs)) (pkT xs) (pkL xs) ++ sqAd (mSrc K (nb xs 8 8) (nb xs 16 8)) (nb xs 8 8) (nb xs 16 8) ++ sqAd (mGoal K (nb xs 24 8) (nb xs 32 8)) (nb xs 24 8) (nb xs 32 8)).take (tw_cap q)) ((tq_uR_ne _ _ hq1).trans hx) (tq_uR_same _ _ _)) mm_X8_writePorts wd_369 rfl (by decide) rfl (Nat.le_of_ble_eq_true rfl) dX8_write_236 ?_
            rintro _ _ rfl
            show TW G X (tw_uR (tw_uR S q ((([] : List Nat) ++ [(sqB1 (sqTF (pkT xs) (pkL xs)) (sqHL (xs.getD 7 0)) true) % 256] ++ [(0 + (mSrc K (nb xs 8 8) (nb xs 16 8)) * 16 + mGoal K (nb xs 24 8) (nb xs 32 8)) % 256] ++ sqTr (sqTF (pkT xs) (pkL xs)) (pkT xs) (pkL xs) ++ sqAd (mSrc K (nb xs 8 8) (nb xs 16 8)) (nb xs 8 8) (nb xs 16 8) ++ sqAd (mGoal K (nb xs 24 8) (nb xs 32 8)) (nb xs 24 8) (nb xs 32 8)).take (tw_cap q))) q ((((([] : List Nat) ++ [(sqB1 (sqTF (pkT xs) (pkL xs)) (sqHL (xs.getD 7 0)) true) % 256] ++ [(0 + (mSrc K (nb xs 8 8) (nb xs 16 8)) * 16 + mGoal K (nb xs 24 8) (nb xs 32 8)) % 256] ++ sqTr (sqTF (pkT xs) (pkL xs)) (pkT xs) (pkL xs) ++ sqAd (mSrc K (nb xs 8 8) (nb xs 16 8)) (nb xs 8 8) (nb xs 16 8) ++ sqAd (mGoal K (nb xs 24 8) (nb xs 32 8)) (nb xs 24 8) (nb xs 32 8)).take (tw_cap q)) ++ sqPo (nb xs 40 2) (nb xs 42 2) (nb xs 46 2)).take (tw_cap q))) [(16, .int (nI ((16 * (ctxN K (mSrc K (nb xs 8 8) (nb xs 16 8)) (nb xs 8 8))) + (ctxN K (mGoal K (nb xs 24 8) (nb xs 32 8)) (nb xs 24 8))))), (15, .int (nI (mGoal K (nb xs 24 8) (nb xs 32 8)))), (14, .int (nI (mSrc K (nb xs 8 8) (nb xs 16 8)))), (12, .long (lN (nb xs 32 8))), (10, .long (lN (nb xs 24 8))), (8, .long (lN (nb xs 16 8))), (6, .long (lN (nb xs 8 8))), (5, .int (nI (sqHL (xs.getD 7 0)))), (4, .int (nI (sqTF (pkT xs) (pkL xs)))), (3, .int (bI (hasPB xs))), (0, .ref (tw_ad G 8)), (1, .ref (tw_ad G 1)), (2, .ref (tw_ad G q))] 239 []
            refine TW.sS (S' := tw_uR S q ((([] : List Nat) ++ [(sqB1 (sqTF (pkT xs) (pkL xs)) (sqHL (xs.getD 7 0)) true) % 256] ++ [(0 + (mSrc K (nb xs 8 8) (nb xs 16 8)) * 16 + mGoal K (nb xs 24 8) (nb xs 32 8)) % 256] ++ sqTr (sqTF (pkT xs) (pkL xs)) (pkT xs) (pkL xs) ++ sqAd (mSrc K (nb xs 8 8) (nb xs 16 8)) (nb xs 8 8) (nb xs 16 8) ++ sqAd (mGoal K (nb xs 24 8) (nb xs 32 8)) (nb xs 24 8) (nb xs 32 8) ++ sqPo (nb xs 40 2) (nb xs 42 2) (nb xs 46 2)).take (tw_cap q))) (by rw [tw_uR_uR, tk_tk]) ?_
            refine TW.sS (S' := tw_uR S q ((sqHd K xs).take (tw_cap q))) (by congr 2; simp only [sqHd, sqB2, hpb, if_pos hc0, if_neg (Nat.pos_iff_ne_zero.mp hl0), hm1, hm2, hm2z, hm3, hm6, hm7, if_true, if_false, Bool.false_eq_true, List.nil_append, List.append_nil, List.append_assoc]) ?_
            refine tw_aload_n C dX8_write_239 12 rfl ?_
            refine tw_callV (As := []) (rest := []) C N (e_X7_length hG hq (xs := (sqHd K xs).take (tw_cap q)) (tq_uR_same _ _ _) ) mm_X7_length wd_372 rfl (hG _ (tw_row_lt hq).2) (tw_row_sh hq) rfl (by decide) rfl (Nat.le_of_ble_eq_true rfl) dX8_write_240 ?_
            rintro _ _ ⟨rfl, rfl⟩
            show TW G X (tw_uR S q ((sqHd K xs).take (tw_cap q))) [(16, .int (nI ((16 * (ctxN K (mSrc K (nb xs 8 8) (nb xs 16 8)) (nb xs 8 8))) + (ctxN K (mGoal K (nb xs 24 8) (nb xs 32 8)) (nb xs 24 8))))), (15, .int (nI (mGoal K (nb xs 24 8) (nb xs 32 8)))), (14, .int (nI (mSrc K (nb xs 8 8) (nb xs 16 8)))), (12, .long (lN (nb xs 32 8))), (10, .long (lN (nb xs 24 8))), (8, .long (lN (nb xs 16 8))), (6, .long (lN (nb xs 8 8))), (5, .int (nI (sqHL (xs.getD 7 0)))), (4, .int (nI (sqTF (pkT xs) (pkL xs)))), (3, .int (bI (hasPB xs))), (0, .ref (tw_ad G 8)), (1, .ref (tw_ad G 1)), (2, .ref (tw_ad G q))] 243 [.int (nI (((sqHd K xs).take (tw_cap q)).length))]
            refine tw_istore (L' := [(17, .int (nI (((sqHd K xs).take (tw_cap q)).length))), (16, .int (nI ((16 * (ctxN K (mSrc K (nb xs 8 8) (nb xs 16 8)) (nb xs 8 8))) + (ctxN K (mGoal K (nb xs 24 8) (nb xs 32 8)) (nb xs 24 8))))), (15, .int (nI (mGoal K (nb xs 24 8) (nb xs 32 8)))), (14, .int (nI (mSrc K (nb xs 8 8) (nb xs 16 8)))), (12, .long (lN (nb xs 32 8))), (10, .long (lN (nb xs 24 8))), (8, .long (lN (nb xs 16 8))), (6, .long (lN (nb xs 8 8))), (5, .int (nI (sqHL (xs.getD 7 0)))), (4, .int (nI (sqTF (pkT xs) (pkL xs)))), (3, .int (bI (hasPB xs))), (0, .ref (tw_ad G 8)), (1, .ref (tw_ad G 1)), (2, .ref (tw_ad G q))]) C N dX8_write_243 (i := 17) (by decide) rfl ?_
            refine tw_aload_n C dX8_write_245 13 rfl ?_
            refine tw_aload_n C dX8_write_246 12 rfl ?_
            refine tw_aload_n C dX8_write_247 12 rfl ?_
            refine tw_callS (As := [.ref (tw_ad G 1)]) (rest := [.ref (tw_ad G 1), .ref (tw_ad G q)]) C N (c_X5_headOf hG tw_row1 (xs := xs) ((tq_uR_ne _ _ hq1).trans hx)) mm_X5_headOf wd_373 rfl (by decide) rfl (Nat.le_of_ble_eq_true rfl) dX8_write_248 ?_
            rintro _ _ ⟨rfl, rfl⟩
            show TW G X (tw_uR S q ((sqHd K xs).take (tw_cap q))) [(17, .int (nI (((sqHd K xs).take (tw_cap q)).length))), (16, .int (nI ((16 * (ctxN K (mSrc K (nb xs 8 8) (nb xs 16 8)) (nb xs 8 8))) + (ctxN K (mGoal K (nb xs 24 8) (nb xs 32 8)) (nb xs 24 8))))), (15, .int (nI (mGoal K (nb xs 24 8) (nb xs 32 8)))), (14, .int (nI (mSrc K (nb xs 8 8) (nb xs 16 8)))), (12, .long (lN (nb xs 32 8))), (10, .long (lN (nb xs 24 8))), (8, .long (lN (nb xs 16 8))), (6, .long (lN (nb xs 8 8))), (5, .int (nI (sqHL (xs.getD 7 0)))), (4, .int (nI (sqTF (pkT xs) (pkL xs)))), (3, .int (bI (hasPB xs))), (0, .ref (tw_ad G 8)), (1, .ref (tw_ad G 1)), (2, .ref (tw_ad G q))] 251 [.int (nI (pkH xs)), .ref (tw_ad G 1), .ref (tw_ad G q)]
            refine tw_aload_n C dX8_write_251 12 rfl ?_
            refine tw_callV (As := []) (rest := [.int (nI (pkH xs)), .ref (tw_ad G 1), .ref (tw_ad G q)]) C N (e_X7_length hG tw_row1 (xs := xs) ((tq_uR_ne _ _ hq1).trans hx) ) mm_X7_length wd_372 rfl (hG 1 (by decide)) sh_1 rfl (by decide) rfl (Nat.le_of_ble_eq_true rfl) dX8_write_252 ?_
            rintro _ _ ⟨rfl, rfl⟩
            show TW G X (tw_uR S q ((sqHd K xs).take (tw_cap q))) [(17, .int (nI (((sqHd K xs).take (tw_cap q)).length))), (16, .int (nI ((16 * (ctxN K (mSrc K (nb xs 8 8) (nb xs 16 8)) (nb xs 8 8))) + (ctxN K (mGoal K (nb xs 24 8) (nb xs 32 8)) (nb xs 24 8))))), (15, .int (nI (mGoal K (nb xs 24 8) (nb xs 32 8)))), (14, .int (nI (mSrc K (nb xs 8 8) (nb xs 16 8)))), (12, .long (lN (nb xs 32 8))), (10, .long (lN (nb xs 24 8))), (8, .long (lN (nb xs 16 8))), (6, .long (lN (nb xs 8 8))), (5, .int (nI (sqHL (xs.getD 7 0)))), (4, .int (nI (sqTF (pkT xs) (pkL xs)))), (3, .int (bI (hasPB xs))), (0, .ref (tw_ad G 8)), (1, .ref (tw_ad G 1)), (2, .ref (tw_ad G q))] 255 [.int (nI xs.length), .int (nI (pkH xs)), .ref (tw_ad G 1), .ref (tw_ad G q)]
            have hphp : pkH xs ≤ 48 := by unfold pkH; split <;> omega
            refine tw_callV (As := [.ref (tw_ad G 1), .int (nI (pkH xs)), .int (nI xs.length)]) (rest := []) C N (e_X7_addAll hG hq (xs := (sqHd K xs).take (tw_cap q)) (tq_uR_same _ _ _) tw_row1 hq1 (ys := xs) ((tq_uR_ne _ _ hq1).trans hx) (a := pkH xs) (e := xs.length) (by omega) (by omega)) mm_X7_addAll wd_377 rfl (hG _ (tw_row_lt hq).2) (tw_row_sh hq) rfl (by decide) rfl (Nat.le_of_ble_eq_true rfl) dX8_write_255 ?_
            rintro _ _ rfl
            show TW G X (tw_uR (tw_uR S q ((sqHd K xs).take (tw_cap q))) q ((((sqHd K xs).take (tw_cap q)) ++ cutD xs (pkH xs) (xs.length - (pkH xs))).take (tw_cap q))) [(17, .int (nI (((sqHd K xs).take (tw_cap q)).length))), (16, .int (nI ((16 * (ctxN K (mSrc K (nb xs 8 8) (nb xs 16 8)) (nb xs 8 8))) + (ctxN K (mGoal K (nb xs 24 8) (nb xs 32 8)) (nb xs 24 8))))), (15, .int (nI (mGoal K (nb xs 24 8) (nb xs 32 8)))), (14, .int (nI (mSrc K (nb xs 8 8) (nb xs 16 8)))), (12, .long (lN (nb xs 32 8))), (10, .long (lN (nb xs 24 8))), (8, .long (lN (nb xs 16 8))), (6, .long (lN (nb xs 8 8))), (5, .int (nI (sqHL (xs.getD 7 0)))), (4, .int (nI (sqTF (pkT xs) (pkL xs)))), (3, .int (bI (hasPB xs))), (0, .ref (tw_ad G 8)), (1, .ref (tw_ad G 1)), (2, .ref (tw_ad G q))] 258 []
            refine TW.sS (S' := tw_uR S q ((sqHd K xs ++ cutD xs (pkH xs) (xs.length - (pkH xs))).take (tw_cap q))) (by rw [tw_uR_uR, tk_tk]) ?_
            refine tw_iload C dX8_write_258 0 rfl ?_
            exact tw_ireturn C Q dX8_write_260 rfl rfl rfl ⟨by rw [List.length_take, Nat.min_eq_right (by omega)], rfl⟩
          · exact absurd ch (by omega)
        · exact absurd cb (by simp [hpb])
      · exact absurd cc (by omega)
    · exact absurd cc (by omega)
  · skip
    refine tw_bipush C dX8_write_116 (v := nI 96) (by decide) ?_
    refine tw_iload C dX8_write_118 8 rfl ?_
    refine tw_iconst C dX8_write_120 (v := nI 3) (by decide) ?_
    refine tw_ishl C dX8_write_121 (v := nI ((sqTF (pkT xs) (pkL xs)) * 8)) (nI_shl _ 3 (by decide)) ?_
    refine tw_ior C dX8_write_122 (v := nI (96 ||| ((sqTF (pkT xs) (pkL xs)) * 8))) (nI_or _ _) ?_
    refine tw_iload_n C dX8_write_123 9 rfl ?_
    refine tb_if_eq C dX8_write_124 (tgt := 131) (by decide) (fun cb => ?_) (fun cb => ?_)
    · exact absurd cb (by simp [hpb])
    refine tw_iconst C dX8_write_127 (v := nI 4) (by decide) ?_
    refine tw_goto C dX8_write_128 (tgt := 132) (by decide) ?_
    refine tw_ior C dX8_write_132 (v := nI ((96 ||| ((sqTF (pkT xs) (pkL xs)) * 8)) ||| 4)) (nI_or _ _) ?_
    refine tw_iload C dX8_write_133 7 rfl ?_
    refine tw_ior C dX8_write_135 (v := nI (sqB1 (sqTF (pkT xs) (pkL xs)) (sqHL (xs.getD 7 0)) true)) (by rw [nI_or, (sqB1_or _ (sqTF_lt _ _) _ (sqHL_lt _)).1]) ?_
    refine tw_callV (As := [.int (nI (sqB1 (sqTF (pkT xs) (pkL xs)) (sqHL (xs.getD 7 0)) true))]) (rest := []) C N (e_X7_add hG hq (xs := (([] : List Nat)).take (tw_cap q)) (tq_uR_same _ _ _) (x := sqB1 (sqTF (pkT xs) (pkL xs)) (sqHL (xs.getD 7 0)) true)) mm_X7_add wd_357 rfl (hG _ (tw_row_lt hq).2) (tw_row_sh hq) rfl (by decide) rfl (Nat.le_of_ble_eq_true rfl) dX8_write_136 ?_
    rintro _ _ rfl
    show TW G X (tw_uR (tw_uR S q ((([] : List Nat)).take (tw_cap q))) q ((((([] : List Nat)).take (tw_cap q)) ++ [(sqB1 (sqTF (pkT xs) (pkL xs)) (sqHL (xs.getD 7 0)) true) % 256]).take (tw_cap q))) [(16, .int (nI ((16 * (ctxN K (mSrc K (nb xs 8 8) (nb xs 16 8)) (nb xs 8 8))) + (ctxN K (mGoal K (nb xs 24 8) (nb xs 32 8)) (nb xs 24 8))))), (15, .int (nI (mGoal K (nb xs 24 8) (nb xs 32 8)))), (14, .int (nI (mSrc K (nb xs 8 8) (nb xs 16 8)))), (12, .long (lN (nb xs 32 8))), (10, .long (lN (nb xs 24 8))), (8, .long (lN (nb xs 16 8))), (6, .long (lN (nb xs 8 8))), (5, .int (nI (sqHL (xs.getD 7 0)))), (4, .int (nI (sqTF (pkT xs) (pkL xs)))), (3, .int (bI (hasPB xs))), (0, .ref (tw_ad G 8)), (1, .ref (tw_ad G 1)), (2, .ref (tw_ad G q))] 139 []
    refine TW.sS (S' := tw_uR S q ((([] : List Nat) ++ [(sqB1 (sqTF (pkT xs) (pkL xs)) (sqHL (xs.getD 7 0)) true) % 256]).take (tw_cap q))) (by rw [tw_uR_uR, tk_tk]) ?_
    refine tw_aload_n C dX8_write_139 12 rfl ?_
    refine tw_iload C dX8_write_140 0 rfl ?_
    refine tn_if_eq C dX8_write_142 (tgt := 151) (by decide) (by omega) (fun cc => ?_) (fun cc => ?_)
    · exact absurd cc (by omega)
    refine tw_sipush C dX8_write_145 (v := nI 128) (by decide) ?_
    refine tw_goto C dX8_write_148 (tgt := 152) (by decide) ?_
    refine tw_iload C dX8_write_152 2 rfl ?_
    refine tw_iconst C dX8_write_154 (v := nI 4) (by decide) ?_
    refine tw_ishl C dX8_write_155 (v := nI ((mSrc K (nb xs 8 8) (nb xs 16 8)) * 16)) (nI_shl _ 4 (by decide)) ?_
    refine tw_ior C dX8_write_156 (v := nI (128 ||| ((mSrc K (nb xs 8 8) (nb xs 16 8)) * 16))) (nI_or _ _) ?_
    refine tw_iload C dX8_write_157 1 rfl ?_
    refine tw_ior C dX8_write_159 (v := nI (128 + (mSrc K (nb xs 8 8) (nb xs 16 8)) * 16 + mGoal K (nb xs 24 8) (nb xs 32 8))) (by rw [nI_or, (sqB2_or _ (by omega) _ (by omega)).1]) ?_
    refine tw_callV (As := [.int (nI (128 + (mSrc K (nb xs 8 8) (nb xs 16 8)) * 16 + mGoal K (nb xs 24 8) (nb xs 32 8)))]) (rest := []) C N (e_X7_add hG hq (xs := (([] : List Nat) ++ [(sqB1 (sqTF (pkT xs) (pkL xs)) (sqHL (xs.getD 7 0)) true) % 256]).take (tw_cap q)) (tq_uR_same _ _ _) (x := 128 + (mSrc K (nb xs 8 8) (nb xs 16 8)) * 16 + mGoal K (nb xs 24 8) (nb xs 32 8))) mm_X7_add wd_357 rfl (hG _ (tw_row_lt hq).2) (tw_row_sh hq) rfl (by decide) rfl (Nat.le_of_ble_eq_true rfl) dX8_write_160 ?_
    rintro _ _ rfl
    show TW G X (tw_uR (tw_uR S q ((([] : List Nat) ++ [(sqB1 (sqTF (pkT xs) (pkL xs)) (sqHL (xs.getD 7 0)) true) % 256]).take (tw_cap q))) q ((((([] : List Nat) ++ [(sqB1 (sqTF (pkT xs) (pkL xs)) (sqHL (xs.getD 7 0)) true) % 256]).take (tw_cap q)) ++ [(128 + (mSrc K (nb xs 8 8) (nb xs 16 8)) * 16 + mGoal K (nb xs 24 8) (nb xs 32 8)) % 256]).take (tw_cap q))) [(16, .int (nI ((16 * (ctxN K (mSrc K (nb xs 8 8) (nb xs 16 8)) (nb xs 8 8))) + (ctxN K (mGoal K (nb xs 24 8) (nb xs 32 8)) (nb xs 24 8))))), (15, .int (nI (mGoal K (nb xs 24 8) (nb xs 32 8)))), (14, .int (nI (mSrc K (nb xs 8 8) (nb xs 16 8)))), (12, .long (lN (nb xs 32 8))), (10, .long (lN (nb xs 24 8))), (8, .long (lN (nb xs 16 8))), (6, .long (lN (nb xs 8 8))), (5, .int (nI (sqHL (xs.getD 7 0)))), (4, .int (nI (sqTF (pkT xs) (pkL xs)))), (3, .int (bI (hasPB xs))), (0, .ref (tw_ad G 8)), (1, .ref (tw_ad G 1)), (2, .ref (tw_ad G q))] 163 []
    refine TW.sS (S' := tw_uR S q ((([] : List Nat) ++ [(sqB1 (sqTF (pkT xs) (pkL xs)) (sqHL (xs.getD 7 0)) true) % 256] ++ [(128 + (mSrc K (nb xs 8 8) (nb xs 16 8)) * 16 + mGoal K (nb xs 24 8) (nb xs 32 8)) % 256]).take (tw_cap q))) (by rw [tw_uR_uR, tk_tk]) ?_
    refine tw_iload C dX8_write_163 0 rfl ?_
    refine tn_if_eq C dX8_write_165 (tgt := 174) (by decide) (by omega) (fun cc => ?_) (fun cc => ?_)
    · exact absurd cc (by omega)
    refine tw_aload_n C dX8_write_168 12 rfl ?_
    refine tw_iload C dX8_write_169 0 rfl ?_
    refine tw_callV (As := [.int (nI ((16 * (ctxN K (mSrc K (nb xs 8 8) (nb xs 16 8)) (nb xs 8 8))) + (ctxN K (mGoal K (nb xs 24 8) (nb xs 32 8)) (nb xs 24 8))))]) (rest := []) C N (e_X7_add hG hq (xs := (([] : List Nat) ++ [(sqB1 (sqTF (pkT xs) (pkL xs)) (sqHL (xs.getD 7 0)) true) % 256] ++ [(128 + (mSrc K (nb xs 8 8) (nb xs 16 8)) * 16 + mGoal K (nb xs 24 8) (nb xs 32 8)) % 256]).take (tw_cap q)) (tq_uR_same _ _ _) (x := (16 * (ctxN K (mSrc K (nb xs 8 8) (nb xs 16 8)) (nb xs 8 8))) + (ctxN K (mGoal K (nb xs 24 8) (nb xs 32 8)) (nb xs 24 8)))) mm_X7_add wd_357 rfl (hG _ (tw_row_lt hq).2) (tw_row_sh hq) rfl (by decide) rfl (Nat.le_of_ble_eq_true rfl) dX8_write_171 ?_
    rintro _ _ rfl
    show TW G X (tw_uR (tw_uR S q ((([] : List Nat) ++ [(sqB1 (sqTF (pkT xs) (pkL xs)) (sqHL (xs.getD 7 0)) true) % 256] ++ [(128 + (mSrc K (nb xs 8 8) (nb xs 16 8)) * 16 + mGoal K (nb xs 24 8) (nb xs 32 8)) % 256]).take (tw_cap q))) q ((((([] : List Nat) ++ [(sqB1 (sqTF (pkT xs) (pkL xs)) (sqHL (xs.getD 7 0)) true) % 256] ++ [(128 + (mSrc K (nb xs 8 8) (nb xs 16 8)) * 16 + mGoal K (nb xs 24 8) (nb xs 32 8)) % 256]).take (tw_cap q)) ++ [((16 * (ctxN K (mSrc K (nb xs 8 8) (nb xs 16 8)) (nb xs 8 8))) + (ctxN K (mGoal K (nb xs 24 8) (nb xs 32 8)) (nb xs 24 8))) % 256]).take (tw_cap q))) [(16, .int (nI ((16 * (ctxN K (mSrc K (nb xs 8 8) (nb xs 16 8)) (nb xs 8 8))) + (ctxN K (mGoal K (nb xs 24 8) (nb xs 32 8)) (nb xs 24 8))))), (15, .int (nI (mGoal K (nb xs 24 8) (nb xs 32 8)))), (14, .int (nI (mSrc K (nb xs 8 8) (nb xs 16 8)))), (12, .long (lN (nb xs 32 8))), (10, .long (lN (nb xs 24 8))), (8, .long (lN (nb xs 16 8))), (6, .long (lN (nb xs 8 8))), (5, .int (nI (sqHL (xs.getD 7 0)))), (4, .int (nI (sqTF (pkT xs) (pkL xs)))), (3, .int (bI (hasPB xs))), (0, .ref (tw_ad G 8)), (1, .ref (tw_ad G 1)), (2, .ref (tw_ad G q))] 174 []
    refine TW.sS (S' := tw_uR S q ((([] : List Nat) ++ [(sqB1 (sqTF (pkT xs) (pkL xs)) (sqHL (xs.getD 7 0)) true) % 256] ++ [(128 + (mSrc K (nb xs 8 8) (nb xs 16 8)) * 16 + mGoal K (nb xs 24 8) (nb xs 32 8)) % 256] ++ [((16 * (ctxN K (mSrc K (nb xs 8 8) (nb xs 16 8)) (nb xs 8 8))) + (ctxN K (mGoal K (nb xs 24 8) (nb xs 32 8)) (nb xs 24 8))) % 256]).take (tw_cap q))) (by rw [tw_uR_uR, tk_tk]) ?_
    refine tw_aload_n C dX8_write_174 11 rfl ?_
    refine tw_iload C dX8_write_175 8 rfl ?_
    refine tw_aload_n C dX8_write_177 12 rfl ?_
    refine tw_callS (As := [.ref (tw_ad G 1), .int (nI (sqTF (pkT xs) (pkL xs))), .ref (tw_ad G q)]) (rest := []) C N (c_X8_writeTraffic hG hq hq1 (xs := xs) (ys := (([] : List Nat) ++ [(sqB1 (sqTF (pkT xs) (pkL xs)) (sqHL (xs.getD 7 0)) true) % 256] ++ [(128 + (mSrc K (nb xs 8 8) (nb xs 16 8)) * 16 + mGoal K (nb xs 24 8) (nb xs 32 8)) % 256] ++ [((16 * (ctxN K (mSrc K (nb xs 8 8) (nb xs 16 8)) (nb xs 8 8))) + (ctxN K (mGoal K (nb xs 24 8) (nb xs 32 8)) (nb xs 24 8))) % 256]).take (tw_cap q)) ((tq_uR_ne _ _ hq1).trans hx) (tq_uR_same _ _ _) (tf := sqTF (pkT xs) (pkL xs)) (sqTF_lt _ _) sqTF_1) mm_X8_writeTraffic wd_358 rfl (by decide) rfl (Nat.le_of_ble_eq_true rfl) dX8_write_178 ?_
    rintro _ _ rfl
    show TW G X (tw_uR (tw_uR S q ((([] : List Nat) ++ [(sqB1 (sqTF (pkT xs) (pkL xs)) (sqHL (xs.getD 7 0)) true) % 256] ++ [(128 + (mSrc K (nb xs 8 8) (nb xs 16 8)) * 16 + mGoal K (nb xs 24 8) (nb xs 32 8)) % 256] ++ [((16 * (ctxN K (mSrc K (nb xs 8 8) (nb xs 16 8)) (nb xs 8 8))) + (ctxN K (mGoal K (nb xs 24 8) (nb xs 32 8)) (nb xs 24 8))) % 256]).take (tw_cap q))) q ((((([] : List Nat) ++ [(sqB1 (sqTF (pkT xs) (pkL xs)) (sqHL (xs.getD 7 0)) true) % 256] ++ [(128 + (mSrc K (nb xs 8 8) (nb xs 16 8)) * 16 + mGoal K (nb xs 24 8) (nb xs 32 8)) % 256] ++ [((16 * (ctxN K (mSrc K (nb xs 8 8) (nb xs 16 8)) (nb xs 8 8))) + (ctxN K (mGoal K (nb xs 24 8) (nb xs 32 8)) (nb xs 24 8))) % 256]).take (tw_cap q)) ++ sqTr (sqTF (pkT xs) (pkL xs)) (pkT xs) (pkL xs)).take (tw_cap q))) [(16, .int (nI ((16 * (ctxN K (mSrc K (nb xs 8 8) (nb xs 16 8)) (nb xs 8 8))) + (ctxN K (mGoal K (nb xs 24 8) (nb xs 32 8)) (nb xs 24 8))))), (15, .int (nI (mGoal K (nb xs 24 8) (nb xs 32 8)))), (14, .int (nI (mSrc K (nb xs 8 8) (nb xs 16 8)))), (12, .long (lN (nb xs 32 8))), (10, .long (lN (nb xs 24 8))), (8, .long (lN (nb xs 16 8))), (6, .long (lN (nb xs 8 8))), (5, .int (nI (sqHL (xs.getD 7 0)))), (4, .int (nI (sqTF (pkT xs) (pkL xs)))), (3, .int (bI (hasPB xs))), (0, .ref (tw_ad G 8)), (1, .ref (tw_ad G 1)), (2, .ref (tw_ad G q))] 181 []
    refine TW.sS (S' := tw_uR S q ((([] : List Nat) ++ [(sqB1 (sqTF (pkT xs) (pkL xs)) (sqHL (xs.getD 7 0)) true) % 256] ++ [(128 + (mSrc K (nb xs 8 8) (nb xs 16 8)) * 16 + mGoal K (nb xs 24 8) (nb xs 32 8)) % 256] ++ [((16 * (ctxN K (mSrc K (nb xs 8 8) (nb xs 16 8)) (nb xs 8 8))) + (ctxN K (mGoal K (nb xs 24 8) (nb xs 32 8)) (nb xs 24 8))) % 256] ++ sqTr (sqTF (pkT xs) (pkL xs)) (pkT xs) (pkL xs)).take (tw_cap q))) (by rw [tw_uR_uR, tk_tk]) ?_
    refine tw_iload_n C dX8_write_181 9 rfl ?_
    refine tb_if_ne C dX8_write_182 (tgt := 195) (by decide) (fun cb => ?_) (fun cb => ?_)
    · skip
      refine tw_iload C dX8_write_195 7 rfl ?_
      refine tn_if_ne C dX8_write_197 (tgt := 210) (by decide) (by omega) (fun ch => ?_) (fun ch => ?_)
      · exact absurd ch (by omega)
      refine tw_aload_n C dX8_write_200 12 rfl ?_
      refine tw_aload_n C dX8_write_201 11 rfl ?_
      refine tw_bipush C dX8_write_202 (v := nI 7) (by decide) ?_
      refine tw_callV (As := [.int (nI 7)]) (rest := [.ref (tw_ad G q)]) C N (e_X7_at hG tw_row1 (xs := xs) ((tq_uR_ne _ _ hq1).trans hx) (i := 7) (by omega)) mm_X7_at wd_314 rfl (hG 1 (by decide)) sh_1 rfl (by decide) rfl (Nat.le_of_ble_eq_true rfl) dX8_write_204 ?_
      rintro _ _ ⟨rfl, rfl⟩
      show TW G X (tw_uR S q ((([] : List Nat) ++ [(sqB1 (sqTF (pkT xs) (pkL xs)) (sqHL (xs.getD 7 0)) true) % 256] ++ [(128 + (mSrc K (nb xs 8 8) (nb xs 16 8)) * 16 + mGoal K (nb xs 24 8) (nb xs 32 8)) % 256] ++ [((16 * (ctxN K (mSrc K (nb xs 8 8) (nb xs 16 8)) (nb xs 8 8))) + (ctxN K (mGoal K (nb xs 24 8) (nb xs 32 8)) (nb xs 24 8))) % 256] ++ sqTr (sqTF (pkT xs) (pkL xs)) (pkT xs) (pkL xs)).take (tw_cap q))) [(16, .int (nI ((16 * (ctxN K (mSrc K (nb xs 8 8) (nb xs 16 8)) (nb xs 8 8))) + (ctxN K (mGoal K (nb xs 24 8) (nb xs 32 8)) (nb xs 24 8))))), (15, .int (nI (mGoal K (nb xs 24 8) (nb xs 32 8)))), (14, .int (nI (mSrc K (nb xs 8 8) (nb xs 16 8)))), (12, .long (lN (nb xs 32 8))), (10, .long (lN (nb xs 24 8))), (8, .long (lN (nb xs 16 8))), (6, .long (lN (nb xs 8 8))), (5, .int (nI (sqHL (xs.getD 7 0)))), (4, .int (nI (sqTF (pkT xs) (pkL xs)))), (3, .int (bI (hasPB xs))), (0, .ref (tw_ad G 8)), (1, .ref (tw_ad G 1)), (2, .ref (tw_ad G q))] 207 [.int (nI (xs.getD 7 0)), .ref (tw_ad G q)]
      refine tw_callV (As := [.int (nI (xs.getD 7 0))]) (rest := []) C N (e_X7_add hG hq (xs := (([] : List Nat) ++ [(sqB1 (sqTF (pkT xs) (pkL xs)) (sqHL (xs.getD 7 0)) true) % 256] ++ [(128 + (mSrc K (nb xs 8 8) (nb xs 16 8)) * 16 + mGoal K (nb xs 24 8) (nb xs 32 8)) % 256] ++ [((16 * (ctxN K (mSrc K (nb xs 8 8) (nb xs 16 8)) (nb xs 8 8))) + (ctxN K (mGoal K (nb xs 24 8) (nb xs 32 8)) (nb xs 24 8))) % 256] ++ sqTr (sqTF (pkT xs) (pkL xs)) (pkT xs) (pkL xs)).take (tw_cap q)) (tq_uR_same _ _ _) (x := xs.getD 7 0)) mm_X7_add wd_357 rfl (hG _ (tw_row_lt hq).2) (tw_row_sh hq) rfl (by decide) rfl (Nat.le_of_ble_eq_true rfl) dX8_write_207 ?_
      rintro _ _ rfl
      show TW G X (tw_uR (tw_uR S q ((([] : List Nat) ++ [(sqB1 (sqTF (pkT xs) (pkL xs)) (sqHL (xs.getD 7 0)) true) % 256] ++ [(128 + (mSrc K (nb xs 8 8) (nb xs 16 8)) * 16 + mGoal K (nb xs 24 8) (nb xs 32 8)) % 256] ++ [((16 * (ctxN K (mSrc K (nb xs 8 8) (nb xs 16 8)) (nb xs 8 8))) + (ctxN K (mGoal K (nb xs 24 8) (nb xs 32 8)) (nb xs 24 8))) % 256] ++ sqTr (sqTF (pkT xs) (pkL xs)) (pkT xs) (pkL xs)).take (tw_cap q))) q ((((([] : List Nat) ++ [(sqB1 (sqTF (pkT xs) (pkL xs)) (sqHL (xs.getD 7 0)) true) % 256] ++ [(128 + (mSrc K (nb xs 8 8) (nb xs 16 8)) * 16 + mGoal K (nb xs 24 8) (nb xs 32 8)) % 256] ++ [((16 * (ctxN K (mSrc K (nb xs 8 8) (nb xs 16 8)) (nb xs 8 8))) + (ctxN K (mGoal K (nb xs 24 8) (nb xs 32 8)) (nb xs 24 8))) % 256] ++ sqTr (sqTF (pkT xs) (pkL xs)) (pkT xs) (pkL xs)).take (tw_cap q)) ++ [(xs.getD 7 0) % 256]).take (tw_cap q))) [(16, .int (nI ((16 * (ctxN K (mSrc K (nb xs 8 8) (nb xs 16 8)) (nb xs 8 8))) + (ctxN K (mGoal K (nb xs 24 8) (nb xs 32 8)) (nb xs 24 8))))), (15, .int (nI (mGoal K (nb xs 24 8) (nb xs 32 8)))), (14, .int (nI (mSrc K (nb xs 8 8) (nb xs 16 8)))), (12, .long (lN (nb xs 32 8))), (10, .long (lN (nb xs 24 8))), (8, .long (lN (nb xs 16 8))), (6, .long (lN (nb xs 8 8))), (5, .int (nI (sqHL (xs.getD 7 0)))), (4, .int (nI (sqTF (pkT xs) (pkL xs)))), (3, .int (bI (hasPB xs))), (0, .ref (tw_ad G 8)), (1, .ref (tw_ad G 1)), (2, .ref (tw_ad G q))] 210 []
      refine TW.sS (S' := tw_uR S q ((([] : List Nat) ++ [(sqB1 (sqTF (pkT xs) (pkL xs)) (sqHL (xs.getD 7 0)) true) % 256] ++ [(128 + (mSrc K (nb xs 8 8) (nb xs 16 8)) * 16 + mGoal K (nb xs 24 8) (nb xs 32 8)) % 256] ++ [((16 * (ctxN K (mSrc K (nb xs 8 8) (nb xs 16 8)) (nb xs 8 8))) + (ctxN K (mGoal K (nb xs 24 8) (nb xs 32 8)) (nb xs 24 8))) % 256] ++ sqTr (sqTF (pkT xs) (pkL xs)) (pkT xs) (pkL xs) ++ [(xs.getD 7 0) % 256]).take (tw_cap q))) (by rw [tw_uR_uR, tk_tk]) ?_
      refine tw_iload C dX8_write_210 2 rfl ?_
      refine tw_lload C dX8_write_212 6 rfl ?_
      refine tw_lload C dX8_write_214 5 rfl ?_
      refine tw_aload_n C dX8_write_216 12 rfl ?_
      refine tw_callS (As := [.int (nI (mSrc K (nb xs 8 8) (nb xs 16 8))), .long (lN (nb xs 8 8)), .long (lN (nb xs 16 8)), .ref (tw_ad G q)]) (rest := []) C N (c_X8_writeAddress hG hq (ys := (([] : List Nat) ++ [(sqB1 (sqTF (pkT xs) (pkL xs)) (sqHL (xs.getD 7 0)) true) % 256] ++ [(128 + (mSrc K (nb xs 8 8) (nb xs 16 8)) * 16 + mGoal K (nb xs 24 8) (nb xs 32 8)) % 256] ++ [((16 * (ctxN K (mSrc K (nb xs 8 8) (nb xs 16 8)) (nb xs 8 8))) + (ctxN K (mGoal K (nb xs 24 8) (nb xs 32 8)) (nb xs 24 8))) % 256] ++ sqTr (sqTF (pkT xs) (pkL xs)) (pkT xs) (pkL xs) ++ [(xs.getD 7 0) % 256]).take (tw_cap q)) (tq_uR_same _ _ _) (m := mSrc K (nb xs 8 8) (nb xs 16 8)) (f := nb xs 8 8) (l := nb xs 16 8) (by omega) (by omega) (by omega)) mm_X8_writeAddress wd_362 rfl (by decide) rfl (Nat.le_of_ble_eq_true rfl) dX8_write_217 ?_
      rintro _ _ rfl
      show TW G X (tw_uR (tw_uR S q ((([] : List Nat) ++ [(sqB1 (sqTF (pkT xs) (pkL xs)) (sqHL (xs.getD 7 0)) true) % 256] ++ [(128 + (mSrc K (nb xs 8 8) (nb xs 16 8)) * 16 + mGoal K (nb xs 24 8) (nb xs 32 8)) % 256] ++ [((16 * (ctxN K (mSrc K (nb xs 8 8) (nb xs 16 8)) (nb xs 8 8))) + (ctxN K (mGoal K (nb xs 24 8) (nb xs 32 8)) (nb xs 24 8))) % 256] ++ sqTr (sqTF (pkT xs) (pkL xs)) (pkT xs) (pkL xs) ++ [(xs.getD 7 0) % 256]).take (tw_cap q))) q ((((([] : List Nat) ++ [(sqB1 (sqTF (pkT xs) (pkL xs)) (sqHL (xs.getD 7 0)) true) % 256] ++ [(128 + (mSrc K (nb xs 8 8) (nb xs 16 8)) * 16 + mGoal K (nb xs 24 8) (nb xs 32 8)) % 256] ++ [((16 * (ctxN K (mSrc K (nb xs 8 8) (nb xs 16 8)) (nb xs 8 8))) + (ctxN K (mGoal K (nb xs 24 8) (nb xs 32 8)) (nb xs 24 8))) % 256] ++ sqTr (sqTF (pkT xs) (pkL xs)) (pkT xs) (pkL xs) ++ [(xs.getD 7 0) % 256]).take (tw_cap q)) ++ sqAd (mSrc K (nb xs 8 8) (nb xs 16 8)) (nb xs 8 8) (nb xs 16 8)).take (tw_cap q))) [(16, .int (nI ((16 * (ctxN K (mSrc K (nb xs 8 8) (nb xs 16 8)) (nb xs 8 8))) + (ctxN K (mGoal K (nb xs 24 8) (nb xs 32 8)) (nb xs 24 8))))), (15, .int (nI (mGoal K (nb xs 24 8) (nb xs 32 8)))), (14, .int (nI (mSrc K (nb xs 8 8) (nb xs 16 8)))), (12, .long (lN (nb xs 32 8))), (10, .long (lN (nb xs 24 8))), (8, .long (lN (nb xs 16 8))), (6, .long (lN (nb xs 8 8))), (5, .int (nI (sqHL (xs.getD 7 0)))), (4, .int (nI (sqTF (pkT xs) (pkL xs)))), (3, .int (bI (hasPB xs))), (0, .ref (tw_ad G 8)), (1, .ref (tw_ad G 1)), (2, .ref (tw_ad G q))] 220 []
      refine TW.sS (S' := tw_uR S q ((([] : List Nat) ++ [(sqB1 (sqTF (pkT xs) (pkL xs)) (sqHL (xs.getD 7 0)) true) % 256] ++ [(128 + (mSrc K (nb xs 8 8) (nb xs 16 8)) * 16 + mGoal K (nb xs 24 8) (nb xs 32 8)) % 256] ++ [((16 * (ctxN K (mSrc K (nb xs 8 8) (nb xs 16 8)) (nb xs 8 8))) + (ctxN K (mGoal K (nb xs 24 8) (nb xs 32 8)) (nb xs 24 8))) % 256] ++ sqTr (sqTF (pkT xs) (pkL xs)) (pkT xs) (pkL xs) ++ [(xs.getD 7 0) % 256] ++ sqAd (mSrc K (nb xs 8 8) (nb xs 16 8)) (nb xs 8 8) (nb xs 16 8)).take (tw_cap q))) (by rw [tw_uR_uR, tk_tk]) ?_
      refine tw_iload C dX8_write_220 1 rfl ?_
      refine tw_lload C dX8_write_222 4 rfl ?_
      refine tw_lload C dX8_write_224 3 rfl ?_
      refine tw_aload_n C dX8_write_226 12 rfl ?_
      refine tw_callS (As := [.int (nI (mGoal K (nb xs 24 8) (nb xs 32 8))), .long (lN (nb xs 24 8)), .long (lN (nb xs 32 8)), .ref (tw_ad G q)]) (rest := []) C N (c_X8_writeAddress hG hq (ys := (([] : List Nat) ++ [(sqB1 (sqTF (pkT xs) (pkL xs)) (sqHL (xs.getD 7 0)) true) % 256] ++ [(128 + (mSrc K (nb xs 8 8) (nb xs 16 8)) * 16 + mGoal K (nb xs 24 8) (nb xs 32 8)) % 256] ++ [((16 * (ctxN K (mSrc K (nb xs 8 8) (nb xs 16 8)) (nb xs 8 8))) + (ctxN K (mGoal K (nb xs 24 8) (nb xs 32 8)) (nb xs 24 8))) % 256] ++ sqTr (sqTF (pkT xs) (pkL xs)) (pkT xs) (pkL xs) ++ [(xs.getD 7 0) % 256] ++ sqAd (mSrc K (nb xs 8 8) (nb xs 16 8)) (nb xs 8 8) (nb xs 16 8)).take (tw_cap q)) (tq_uR_same _ _ _) (m := mGoal K (nb xs 24 8) (nb xs 32 8)) (f := nb xs 24 8) (l := nb xs 32 8) (by omega) (by omega) (by omega)) mm_X8_writeAddress wd_362 rfl (by decide) rfl (Nat.le_of_ble_eq_true rfl) dX8_write_227 ?_
      rintro _ _ rfl
      show TW G X (tw_uR (tw_uR S q ((([] : List Nat) ++ [(sqB1 (sqTF (pkT xs) (pkL xs)) (sqHL (xs.getD 7 0)) true) % 256] ++ [(128 + (mSrc K (nb xs 8 8) (nb xs 16 8)) * 16 + mGoal K (nb xs 24 8) (nb xs 32 8)) % 256] ++ [((16 * (ctxN K (mSrc K (nb xs 8 8) (nb xs 16 8)) (nb xs 8 8))) + (ctxN K (mGoal K (nb xs 24 8) (nb xs 32 8)) (nb xs 24 8))) % 256] ++ sqTr (sqTF (pkT xs) (pkL xs)) (pkT xs) (pkL xs) ++ [(xs.getD 7 0) % 256] ++ sqAd (mSrc K (nb xs 8 8) (nb xs 16 8)) (nb xs 8 8) (nb xs 16 8)).take (tw_cap q))) q ((((([] : List Nat) ++ [(sqB1 (sqTF (pkT xs) (pkL xs)) (sqHL (xs.getD 7 0)) true) % 256] ++ [(128 + (mSrc K (nb xs 8 8) (nb xs 16 8)) * 16 + mGoal K (nb xs 24 8) (nb xs 32 8)) % 256] ++ [((16 * (ctxN K (mSrc K (nb xs 8 8) (nb xs 16 8)) (nb xs 8 8))) + (ctxN K (mGoal K (nb xs 24 8) (nb xs 32 8)) (nb xs 24 8))) % 256] ++ sqTr (sqTF (pkT xs) (pkL xs)) (pkT xs) (pkL xs) ++ [(xs.getD 7 0) % 256] ++ sqAd (mSrc K (nb xs 8 8) (nb xs 16 8)) (nb xs 8 8) (nb xs 16 8)).take (tw_cap q)) ++ sqAd (mGoal K (nb xs 24 8) (nb xs 32 8)) (nb xs 24 8) (nb xs 32 8)).take (tw_cap q))) [(16, .int (nI ((16 * (ctxN K (mSrc K (nb xs 8 8) (nb xs 16 8)) (nb xs 8 8))) + (ctxN K (mGoal K (nb xs 24 8) (nb xs 32 8)) (nb xs 24 8))))), (15, .int (nI (mGoal K (nb xs 24 8) (nb xs 32 8)))), (14, .int (nI (mSrc K (nb xs 8 8) (nb xs 16 8)))), (12, .long (lN (nb xs 32 8))), (10, .long (lN (nb xs 24 8))), (8, .long (lN (nb xs 16 8))), (6, .long (lN (nb xs 8 8))), (5, .int (nI (sqHL (xs.getD 7 0)))), (4, .int (nI (sqTF (pkT xs) (pkL xs)))), (3, .int (bI (hasPB xs))), (0, .ref (tw_ad G 8)), (1, .ref (tw_ad G 1)), (2, .ref (tw_ad G q))] 230 []
      refine TW.sS (S' := tw_uR S q ((([] : List Nat) ++ [(sqB1 (sqTF (pkT xs) (pkL xs)) (sqHL (xs.getD 7 0)) true) % 256] ++ [(128 + (mSrc K (nb xs 8 8) (nb xs 16 8)) * 16 + mGoal K (nb xs 24 8) (nb xs 32 8)) % 256] ++ [((16 * (ctxN K (mSrc K (nb xs 8 8) (nb xs 16 8)) (nb xs 8 8))) + (ctxN K (mGoal K (nb xs 24 8) (nb xs 32 8)) (nb xs 24 8))) % 256] ++ sqTr (sqTF (pkT xs) (pkL xs)) (pkT xs) (pkL xs) ++ [(xs.getD 7 0) % 256] ++ sqAd (mSrc K (nb xs 8 8) (nb xs 16 8)) (nb xs 8 8) (nb xs 16 8) ++ sqAd (mGoal K (nb xs 24 8) (nb xs 32 8)) (nb xs 24 8) (nb xs 32 8)).take (tw_cap q))) (by rw [tw_uR_uR, tk_tk]) ?_
      refine tw_iload_n C dX8_write_230 9 rfl ?_
      refine tb_if_eq C dX8_write_231 (tgt := 239) (by decide) (fun cb => ?_) (fun cb => ?_)
      · exact absurd cb (by simp [hpb])
      refine tw_aload_n C dX8_write_234 11 rfl ?_
      refine tw_aload_n C dX8_write_235 12 rfl ?_
      refine tw_callS (As := [.ref (tw_ad G 1), .ref (tw_ad G q)]) (rest := []) C N (c_X8_writePorts hG hq hq1 (xs := xs) (ys := (([] : List Nat) ++ [(sqB1 (sqTF (pkT xs) (pkL xs)) (sqHL (xs.getD 7 0)) true) % 256] ++ [(128 + (mSrc K (nb xs 8 8) (nb xs 16 8)) * 16 + mGoal K (nb xs 24 8) (nb xs 32 8)) % 256] ++ [((16 * (ctxN K (mSrc K (nb xs 8 8) (nb xs 16 8)) (nb xs 8 8))) + (ctxN K (mGoal K (nb xs 24 8) (nb xs 32 8)) (nb xs 24 8))) % 256] ++ sqTr (sqTF (pkT xs) (pkL xs)) (pkT xs) (pkL xs) ++ [(xs.getD 7 0) % 256] ++ sqAd (mSrc K (nb xs 8 8) (nb xs 16 8)) (nb xs 8 8) (nb xs 16 8) ++ sqAd (mGoal K (nb xs 24 8) (nb xs 32 8)) (nb xs 24 8) (nb xs 32 8)).take (tw_cap q)) ((tq_uR_ne _ _ hq1).trans hx) (tq_uR_same _ _ _)) mm_X8_writePorts wd_369 rfl (by decide) rfl (Nat.le_of_ble_eq_true rfl) dX8_write_236 ?_
      rintro _ _ rfl
      show TW G X (tw_uR (tw_uR S q ((([] : List Nat) ++ [(sqB1 (sqTF (pkT xs) (pkL xs)) (sqHL (xs.getD 7 0)) true) % 256] ++ [(128 + (mSrc K (nb xs 8 8) (nb xs 16 8)) * 16 + mGoal K (nb xs 24 8) (nb xs 32 8)) % 256] ++ [((16 * (ctxN K (mSrc K (nb xs 8 8) (nb xs 16 8)) (nb xs 8 8))) + (ctxN K (mGoal K (nb xs 24 8) (nb xs 32 8)) (nb xs 24 8))) % 256] ++ sqTr (sqTF (pkT xs) (pkL xs)) (pkT xs) (pkL xs) ++ [(xs.getD 7 0) % 256] ++ sqAd (mSrc K (nb xs 8 8) (nb xs 16 8)) (nb xs 8 8) (nb xs 16 8) ++ sqAd (mGoal K (nb xs 24 8) (nb xs 32 8)) (nb xs 24 8) (nb xs 32 8)).take (tw_cap q))) q ((((([] : List Nat) ++ [(sqB1 (sqTF (pkT xs) (pkL xs)) (sqHL (xs.getD 7 0)) true) % 256] ++ [(128 + (mSrc K (nb xs 8 8) (nb xs 16 8)) * 16 + mGoal K (nb xs 24 8) (nb xs 32 8)) % 256] ++ [((16 * (ctxN K (mSrc K (nb xs 8 8) (nb xs 16 8)) (nb xs 8 8))) + (ctxN K (mGoal K (nb xs 24 8) (nb xs 32 8)) (nb xs 24 8))) % 256] ++ sqTr (sqTF (pkT xs) (pkL xs)) (pkT xs) (pkL xs) ++ [(xs.getD 7 0) % 256] ++ sqAd (mSrc K (nb xs 8 8) (nb xs 16 8)) (nb xs 8 8) (nb xs 16 8) ++ sqAd (mGoal K (nb xs 24 8) (nb xs 32 8)) (nb xs 24 8) (nb xs 32 8)).take (tw_cap q)) ++ sqPo (nb xs 40 2) (nb xs 42 2) (nb xs 46 2)).take (tw_cap q))) [(16, .int (nI ((16 * (ctxN K (mSrc K (nb xs 8 8) (nb xs 16 8)) (nb xs 8 8))) + (ctxN K (mGoal K (nb xs 24 8) (nb xs 32 8)) (nb xs 24 8))))), (15, .int (nI (mGoal K (nb xs 24 8) (nb xs 32 8)))), (14, .int (nI (mSrc K (nb xs 8 8) (nb xs 16 8)))), (12, .long (lN (nb xs 32 8))), (10, .long (lN (nb xs 24 8))), (8, .long (lN (nb xs 16 8))), (6, .long (lN (nb xs 8 8))), (5, .int (nI (sqHL (xs.getD 7 0)))), (4, .int (nI (sqTF (pkT xs) (pkL xs)))), (3, .int (bI (hasPB xs))), (0, .ref (tw_ad G 8)), (1, .ref (tw_ad G 1)), (2, .ref (tw_ad G q))] 239 []
      refine TW.sS (S' := tw_uR S q ((([] : List Nat) ++ [(sqB1 (sqTF (pkT xs) (pkL xs)) (sqHL (xs.getD 7 0)) true) % 256] ++ [(128 + (mSrc K (nb xs 8 8) (nb xs 16 8)) * 16 + mGoal K (nb xs 24 8) (nb xs 32 8)) % 256] ++ [((16 * (ctxN K (mSrc K (nb xs 8 8) (nb xs 16 8)) (nb xs 8 8))) + (ctxN K (mGoal K (nb xs 24 8) (nb xs 32 8)) (nb xs 24 8))) % 256] ++ sqTr (sqTF (pkT xs) (pkL xs)) (pkT xs) (pkL xs) ++ [(xs.getD 7 0) % 256] ++ sqAd (mSrc K (nb xs 8 8) (nb xs 16 8)) (nb xs 8 8) (nb xs 16 8) ++ sqAd (mGoal K (nb xs 24 8) (nb xs 32 8)) (nb xs 24 8) (nb xs 32 8) ++ sqPo (nb xs 40 2) (nb xs 42 2) (nb xs 46 2)).take (tw_cap q))) (by rw [tw_uR_uR, tk_tk]) ?_
      refine TW.sS (S' := tw_uR S q ((sqHd K xs).take (tw_cap q))) (by congr 2; simp only [sqHd, sqB2, hpb, if_neg (Nat.pos_iff_ne_zero.mp hc0), if_pos hl0, hm1, hm2, hm2z, hm3, hm6, hm7, if_true, if_false, Bool.false_eq_true, List.nil_append, List.append_nil, List.append_assoc]) ?_
      refine tw_aload_n C dX8_write_239 12 rfl ?_
      refine tw_callV (As := []) (rest := []) C N (e_X7_length hG hq (xs := (sqHd K xs).take (tw_cap q)) (tq_uR_same _ _ _) ) mm_X7_length wd_372 rfl (hG _ (tw_row_lt hq).2) (tw_row_sh hq) rfl (by decide) rfl (Nat.le_of_ble_eq_true rfl) dX8_write_240 ?_
      rintro _ _ ⟨rfl, rfl⟩
      show TW G X (tw_uR S q ((sqHd K xs).take (tw_cap q))) [(16, .int (nI ((16 * (ctxN K (mSrc K (nb xs 8 8) (nb xs 16 8)) (nb xs 8 8))) + (ctxN K (mGoal K (nb xs 24 8) (nb xs 32 8)) (nb xs 24 8))))), (15, .int (nI (mGoal K (nb xs 24 8) (nb xs 32 8)))), (14, .int (nI (mSrc K (nb xs 8 8) (nb xs 16 8)))), (12, .long (lN (nb xs 32 8))), (10, .long (lN (nb xs 24 8))), (8, .long (lN (nb xs 16 8))), (6, .long (lN (nb xs 8 8))), (5, .int (nI (sqHL (xs.getD 7 0)))), (4, .int (nI (sqTF (pkT xs) (pkL xs)))), (3, .int (bI (hasPB xs))), (0, .ref (tw_ad G 8)), (1, .ref (tw_ad G 1)), (2, .ref (tw_ad G q))] 243 [.int (nI (((sqHd K xs).take (tw_cap q)).length))]
      refine tw_istore (L' := [(17, .int (nI (((sqHd K xs).take (tw_cap q)).length))), (16, .int (nI ((16 * (ctxN K (mSrc K (nb xs 8 8) (nb xs 16 8)) (nb xs 8 8))) + (ctxN K (mGoal K (nb xs 24 8) (nb xs 32 8)) (nb xs 24 8))))), (15, .int (nI (mGoal K (nb xs 24 8) (nb xs 32 8)))), (14, .int (nI (mSrc K (nb xs 8 8) (nb xs 16 8)))), (12, .long (lN (nb xs 32 8))), (10, .long (lN (nb xs 24 8))), (8, .long (lN (nb xs 16 8))), (6, .long (lN (nb xs 8 8))), (5, .int (nI (sqHL (xs.getD 7 0)))), (4, .int (nI (sqTF (pkT xs) (pkL xs)))), (3, .int (bI (hasPB xs))), (0, .ref (tw_ad G 8)), (1, .ref (tw_ad G 1)), (2, .ref (tw_ad G q))]) C N dX8_write_243 (i := 17) (by decide) rfl ?_
      refine tw_aload_n C dX8_write_245 13 rfl ?_
      refine tw_aload_n C dX8_write_246 12 rfl ?_
      refine tw_aload_n C dX8_write_247 12 rfl ?_
      refine tw_callS (As := [.ref (tw_ad G 1)]) (rest := [.ref (tw_ad G 1), .ref (tw_ad G q)]) C N (c_X5_headOf hG tw_row1 (xs := xs) ((tq_uR_ne _ _ hq1).trans hx)) mm_X5_headOf wd_373 rfl (by decide) rfl (Nat.le_of_ble_eq_true rfl) dX8_write_248 ?_
      rintro _ _ ⟨rfl, rfl⟩
      show TW G X (tw_uR S q ((sqHd K xs).take (tw_cap q))) [(17, .int (nI (((sqHd K xs).take (tw_cap q)).length))), (16, .int (nI ((16 * (ctxN K (mSrc K (nb xs 8 8) (nb xs 16 8)) (nb xs 8 8))) + (ctxN K (mGoal K (nb xs 24 8) (nb xs 32 8)) (nb xs 24 8))))), (15, .int (nI (mGoal K (nb xs 24 8) (nb xs 32 8)))), (14, .int (nI (mSrc K (nb xs 8 8) (nb xs 16 8)))), (12, .long (lN (nb xs 32 8))), (10, .long (lN (nb xs 24 8))), (8, .long (lN (nb xs 16 8))), (6, .long (lN (nb xs 8 8))), (5, .int (nI (sqHL (xs.getD 7 0)))), (4, .int (nI (sqTF (pkT xs) (pkL xs)))), (3, .int (bI (hasPB xs))), (0, .ref (tw_ad G 8)), (1, .ref (tw_ad G 1)), (2, .ref (tw_ad G q))] 251 [.int (nI (pkH xs)), .ref (tw_ad G 1), .ref (tw_ad G q)]
      refine tw_aload_n C dX8_write_251 12 rfl ?_
      refine tw_callV (As := []) (rest := [.int (nI (pkH xs)), .ref (tw_ad G 1), .ref (tw_ad G q)]) C N (e_X7_length hG tw_row1 (xs := xs) ((tq_uR_ne _ _ hq1).trans hx) ) mm_X7_length wd_372 rfl (hG 1 (by decide)) sh_1 rfl (by decide) rfl (Nat.le_of_ble_eq_true rfl) dX8_write_252 ?_
      rintro _ _ ⟨rfl, rfl⟩
      show TW G X (tw_uR S q ((sqHd K xs).take (tw_cap q))) [(17, .int (nI (((sqHd K xs).take (tw_cap q)).length))), (16, .int (nI ((16 * (ctxN K (mSrc K (nb xs 8 8) (nb xs 16 8)) (nb xs 8 8))) + (ctxN K (mGoal K (nb xs 24 8) (nb xs 32 8)) (nb xs 24 8))))), (15, .int (nI (mGoal K (nb xs 24 8) (nb xs 32 8)))), (14, .int (nI (mSrc K (nb xs 8 8) (nb xs 16 8)))), (12, .long (lN (nb xs 32 8))), (10, .long (lN (nb xs 24 8))), (8, .long (lN (nb xs 16 8))), (6, .long (lN (nb xs 8 8))), (5, .int (nI (sqHL (xs.getD 7 0)))), (4, .int (nI (sqTF (pkT xs) (pkL xs)))), (3, .int (bI (hasPB xs))), (0, .ref (tw_ad G 8)), (1, .ref (tw_ad G 1)), (2, .ref (tw_ad G q))] 255 [.int (nI xs.length), .int (nI (pkH xs)), .ref (tw_ad G 1), .ref (tw_ad G q)]
      have hphp : pkH xs ≤ 48 := by unfold pkH; split <;> omega
      refine tw_callV (As := [.ref (tw_ad G 1), .int (nI (pkH xs)), .int (nI xs.length)]) (rest := []) C N (e_X7_addAll hG hq (xs := (sqHd K xs).take (tw_cap q)) (tq_uR_same _ _ _) tw_row1 hq1 (ys := xs) ((tq_uR_ne _ _ hq1).trans hx) (a := pkH xs) (e := xs.length) (by omega) (by omega)) mm_X7_addAll wd_377 rfl (hG _ (tw_row_lt hq).2) (tw_row_sh hq) rfl (by decide) rfl (Nat.le_of_ble_eq_true rfl) dX8_write_255 ?_
      rintro _ _ rfl
      show TW G X (tw_uR (tw_uR S q ((sqHd K xs).take (tw_cap q))) q ((((sqHd K xs).take (tw_cap q)) ++ cutD xs (pkH xs) (xs.length - (pkH xs))).take (tw_cap q))) [(17, .int (nI (((sqHd K xs).take (tw_cap q)).length))), (16, .int (nI ((16 * (ctxN K (mSrc K (nb xs 8 8) (nb xs 16 8)) (nb xs 8 8))) + (ctxN K (mGoal K (nb xs 24 8) (nb xs 32 8)) (nb xs 24 8))))), (15, .int (nI (mGoal K (nb xs 24 8) (nb xs 32 8)))), (14, .int (nI (mSrc K (nb xs 8 8) (nb xs 16 8)))), (12, .long (lN (nb xs 32 8))), (10, .long (lN (nb xs 24 8))), (8, .long (lN (nb xs 16 8))), (6, .long (lN (nb xs 8 8))), (5, .int (nI (sqHL (xs.getD 7 0)))), (4, .int (nI (sqTF (pkT xs) (pkL xs)))), (3, .int (bI (hasPB xs))), (0, .ref (tw_ad G 8)), (1, .ref (tw_ad G 1)), (2, .ref (tw_ad G q))] 258 []
      refine TW.sS (S' := tw_uR S q ((sqHd K xs ++ cutD xs (pkH xs) (xs.length - (pkH xs))).take (tw_cap q))) (by rw [tw_uR_uR, tk_tk]) ?_
      refine tw_iload C dX8_write_258 0 rfl ?_
      exact tw_ireturn C Q dX8_write_260 rfl rfl rfl ⟨by rw [List.length_take, Nat.min_eq_right (by omega)], rfl⟩
    · exact absurd cb (by simp [hpb])
  · skip
    refine tw_bipush C dX8_write_116 (v := nI 96) (by decide) ?_
    refine tw_iload C dX8_write_118 8 rfl ?_
    refine tw_iconst C dX8_write_120 (v := nI 3) (by decide) ?_
    refine tw_ishl C dX8_write_121 (v := nI ((sqTF (pkT xs) (pkL xs)) * 8)) (nI_shl _ 3 (by decide)) ?_
    refine tw_ior C dX8_write_122 (v := nI (96 ||| ((sqTF (pkT xs) (pkL xs)) * 8))) (nI_or _ _) ?_
    refine tw_iload_n C dX8_write_123 9 rfl ?_
    refine tb_if_eq C dX8_write_124 (tgt := 131) (by decide) (fun cb => ?_) (fun cb => ?_)
    · exact absurd cb (by simp [hpb])
    refine tw_iconst C dX8_write_127 (v := nI 4) (by decide) ?_
    refine tw_goto C dX8_write_128 (tgt := 132) (by decide) ?_
    refine tw_ior C dX8_write_132 (v := nI ((96 ||| ((sqTF (pkT xs) (pkL xs)) * 8)) ||| 4)) (nI_or _ _) ?_
    refine tw_iload C dX8_write_133 7 rfl ?_
    refine tw_ior C dX8_write_135 (v := nI (sqB1 (sqTF (pkT xs) (pkL xs)) (sqHL (xs.getD 7 0)) true)) (by rw [nI_or, (sqB1_or _ (sqTF_lt _ _) _ (sqHL_lt _)).1]) ?_
    refine tw_callV (As := [.int (nI (sqB1 (sqTF (pkT xs) (pkL xs)) (sqHL (xs.getD 7 0)) true))]) (rest := []) C N (e_X7_add hG hq (xs := (([] : List Nat)).take (tw_cap q)) (tq_uR_same _ _ _) (x := sqB1 (sqTF (pkT xs) (pkL xs)) (sqHL (xs.getD 7 0)) true)) mm_X7_add wd_357 rfl (hG _ (tw_row_lt hq).2) (tw_row_sh hq) rfl (by decide) rfl (Nat.le_of_ble_eq_true rfl) dX8_write_136 ?_
    rintro _ _ rfl
    show TW G X (tw_uR (tw_uR S q ((([] : List Nat)).take (tw_cap q))) q ((((([] : List Nat)).take (tw_cap q)) ++ [(sqB1 (sqTF (pkT xs) (pkL xs)) (sqHL (xs.getD 7 0)) true) % 256]).take (tw_cap q))) [(16, .int (nI ((16 * (ctxN K (mSrc K (nb xs 8 8) (nb xs 16 8)) (nb xs 8 8))) + (ctxN K (mGoal K (nb xs 24 8) (nb xs 32 8)) (nb xs 24 8))))), (15, .int (nI (mGoal K (nb xs 24 8) (nb xs 32 8)))), (14, .int (nI (mSrc K (nb xs 8 8) (nb xs 16 8)))), (12, .long (lN (nb xs 32 8))), (10, .long (lN (nb xs 24 8))), (8, .long (lN (nb xs 16 8))), (6, .long (lN (nb xs 8 8))), (5, .int (nI (sqHL (xs.getD 7 0)))), (4, .int (nI (sqTF (pkT xs) (pkL xs)))), (3, .int (bI (hasPB xs))), (0, .ref (tw_ad G 8)), (1, .ref (tw_ad G 1)), (2, .ref (tw_ad G q))] 139 []
    refine TW.sS (S' := tw_uR S q ((([] : List Nat) ++ [(sqB1 (sqTF (pkT xs) (pkL xs)) (sqHL (xs.getD 7 0)) true) % 256]).take (tw_cap q))) (by rw [tw_uR_uR, tk_tk]) ?_
    refine tw_aload_n C dX8_write_139 12 rfl ?_
    refine tw_iload C dX8_write_140 0 rfl ?_
    refine tn_if_eq C dX8_write_142 (tgt := 151) (by decide) (by omega) (fun cc => ?_) (fun cc => ?_)
    · exact absurd cc (by omega)
    refine tw_sipush C dX8_write_145 (v := nI 128) (by decide) ?_
    refine tw_goto C dX8_write_148 (tgt := 152) (by decide) ?_
    refine tw_iload C dX8_write_152 2 rfl ?_
    refine tw_iconst C dX8_write_154 (v := nI 4) (by decide) ?_
    refine tw_ishl C dX8_write_155 (v := nI ((mSrc K (nb xs 8 8) (nb xs 16 8)) * 16)) (nI_shl _ 4 (by decide)) ?_
    refine tw_ior C dX8_write_156 (v := nI (128 ||| ((mSrc K (nb xs 8 8) (nb xs 16 8)) * 16))) (nI_or _ _) ?_
    refine tw_iload C dX8_write_157 1 rfl ?_
    refine tw_ior C dX8_write_159 (v := nI (128 + (mSrc K (nb xs 8 8) (nb xs 16 8)) * 16 + mGoal K (nb xs 24 8) (nb xs 32 8))) (by rw [nI_or, (sqB2_or _ (by omega) _ (by omega)).1]) ?_
    refine tw_callV (As := [.int (nI (128 + (mSrc K (nb xs 8 8) (nb xs 16 8)) * 16 + mGoal K (nb xs 24 8) (nb xs 32 8)))]) (rest := []) C N (e_X7_add hG hq (xs := (([] : List Nat) ++ [(sqB1 (sqTF (pkT xs) (pkL xs)) (sqHL (xs.getD 7 0)) true) % 256]).take (tw_cap q)) (tq_uR_same _ _ _) (x := 128 + (mSrc K (nb xs 8 8) (nb xs 16 8)) * 16 + mGoal K (nb xs 24 8) (nb xs 32 8))) mm_X7_add wd_357 rfl (hG _ (tw_row_lt hq).2) (tw_row_sh hq) rfl (by decide) rfl (Nat.le_of_ble_eq_true rfl) dX8_write_160 ?_
    rintro _ _ rfl
    show TW G X (tw_uR (tw_uR S q ((([] : List Nat) ++ [(sqB1 (sqTF (pkT xs) (pkL xs)) (sqHL (xs.getD 7 0)) true) % 256]).take (tw_cap q))) q ((((([] : List Nat) ++ [(sqB1 (sqTF (pkT xs) (pkL xs)) (sqHL (xs.getD 7 0)) true) % 256]).take (tw_cap q)) ++ [(128 + (mSrc K (nb xs 8 8) (nb xs 16 8)) * 16 + mGoal K (nb xs 24 8) (nb xs 32 8)) % 256]).take (tw_cap q))) [(16, .int (nI ((16 * (ctxN K (mSrc K (nb xs 8 8) (nb xs 16 8)) (nb xs 8 8))) + (ctxN K (mGoal K (nb xs 24 8) (nb xs 32 8)) (nb xs 24 8))))), (15, .int (nI (mGoal K (nb xs 24 8) (nb xs 32 8)))), (14, .int (nI (mSrc K (nb xs 8 8) (nb xs 16 8)))), (12, .long (lN (nb xs 32 8))), (10, .long (lN (nb xs 24 8))), (8, .long (lN (nb xs 16 8))), (6, .long (lN (nb xs 8 8))), (5, .int (nI (sqHL (xs.getD 7 0)))), (4, .int (nI (sqTF (pkT xs) (pkL xs)))), (3, .int (bI (hasPB xs))), (0, .ref (tw_ad G 8)), (1, .ref (tw_ad G 1)), (2, .ref (tw_ad G q))] 163 []
    refine TW.sS (S' := tw_uR S q ((([] : List Nat) ++ [(sqB1 (sqTF (pkT xs) (pkL xs)) (sqHL (xs.getD 7 0)) true) % 256] ++ [(128 + (mSrc K (nb xs 8 8) (nb xs 16 8)) * 16 + mGoal K (nb xs 24 8) (nb xs 32 8)) % 256]).take (tw_cap q))) (by rw [tw_uR_uR, tk_tk]) ?_
    refine tw_iload C dX8_write_163 0 rfl ?_
    refine tn_if_eq C dX8_write_165 (tgt := 174) (by decide) (by omega) (fun cc => ?_) (fun cc => ?_)
    · exact absurd cc (by omega)
    refine tw_aload_n C dX8_write_168 12 rfl ?_
    refine tw_iload C dX8_write_169 0 rfl ?_
    refine tw_callV (As := [.int (nI ((16 * (ctxN K (mSrc K (nb xs 8 8) (nb xs 16 8)) (nb xs 8 8))) + (ctxN K (mGoal K (nb xs 24 8) (nb xs 32 8)) (nb xs 24 8))))]) (rest := []) C N (e_X7_add hG hq (xs := (([] : List Nat) ++ [(sqB1 (sqTF (pkT xs) (pkL xs)) (sqHL (xs.getD 7 0)) true) % 256] ++ [(128 + (mSrc K (nb xs 8 8) (nb xs 16 8)) * 16 + mGoal K (nb xs 24 8) (nb xs 32 8)) % 256]).take (tw_cap q)) (tq_uR_same _ _ _) (x := (16 * (ctxN K (mSrc K (nb xs 8 8) (nb xs 16 8)) (nb xs 8 8))) + (ctxN K (mGoal K (nb xs 24 8) (nb xs 32 8)) (nb xs 24 8)))) mm_X7_add wd_357 rfl (hG _ (tw_row_lt hq).2) (tw_row_sh hq) rfl (by decide) rfl (Nat.le_of_ble_eq_true rfl) dX8_write_171 ?_
    rintro _ _ rfl
    show TW G X (tw_uR (tw_uR S q ((([] : List Nat) ++ [(sqB1 (sqTF (pkT xs) (pkL xs)) (sqHL (xs.getD 7 0)) true) % 256] ++ [(128 + (mSrc K (nb xs 8 8) (nb xs 16 8)) * 16 + mGoal K (nb xs 24 8) (nb xs 32 8)) % 256]).take (tw_cap q))) q ((((([] : List Nat) ++ [(sqB1 (sqTF (pkT xs) (pkL xs)) (sqHL (xs.getD 7 0)) true) % 256] ++ [(128 + (mSrc K (nb xs 8 8) (nb xs 16 8)) * 16 + mGoal K (nb xs 24 8) (nb xs 32 8)) % 256]).take (tw_cap q)) ++ [((16 * (ctxN K (mSrc K (nb xs 8 8) (nb xs 16 8)) (nb xs 8 8))) + (ctxN K (mGoal K (nb xs 24 8) (nb xs 32 8)) (nb xs 24 8))) % 256]).take (tw_cap q))) [(16, .int (nI ((16 * (ctxN K (mSrc K (nb xs 8 8) (nb xs 16 8)) (nb xs 8 8))) + (ctxN K (mGoal K (nb xs 24 8) (nb xs 32 8)) (nb xs 24 8))))), (15, .int (nI (mGoal K (nb xs 24 8) (nb xs 32 8)))), (14, .int (nI (mSrc K (nb xs 8 8) (nb xs 16 8)))), (12, .long (lN (nb xs 32 8))), (10, .long (lN (nb xs 24 8))), (8, .long (lN (nb xs 16 8))), (6, .long (lN (nb xs 8 8))), (5, .int (nI (sqHL (xs.getD 7 0)))), (4, .int (nI (sqTF (pkT xs) (pkL xs)))), (3, .int (bI (hasPB xs))), (0, .ref (tw_ad G 8)), (1, .ref (tw_ad G 1)), (2, .ref (tw_ad G q))] 174 []
    refine TW.sS (S' := tw_uR S q ((([] : List Nat) ++ [(sqB1 (sqTF (pkT xs) (pkL xs)) (sqHL (xs.getD 7 0)) true) % 256] ++ [(128 + (mSrc K (nb xs 8 8) (nb xs 16 8)) * 16 + mGoal K (nb xs 24 8) (nb xs 32 8)) % 256] ++ [((16 * (ctxN K (mSrc K (nb xs 8 8) (nb xs 16 8)) (nb xs 8 8))) + (ctxN K (mGoal K (nb xs 24 8) (nb xs 32 8)) (nb xs 24 8))) % 256]).take (tw_cap q))) (by rw [tw_uR_uR, tk_tk]) ?_
    refine tw_aload_n C dX8_write_174 11 rfl ?_
    refine tw_iload C dX8_write_175 8 rfl ?_
    refine tw_aload_n C dX8_write_177 12 rfl ?_
    refine tw_callS (As := [.ref (tw_ad G 1), .int (nI (sqTF (pkT xs) (pkL xs))), .ref (tw_ad G q)]) (rest := []) C N (c_X8_writeTraffic hG hq hq1 (xs := xs) (ys := (([] : List Nat) ++ [(sqB1 (sqTF (pkT xs) (pkL xs)) (sqHL (xs.getD 7 0)) true) % 256] ++ [(128 + (mSrc K (nb xs 8 8) (nb xs 16 8)) * 16 + mGoal K (nb xs 24 8) (nb xs 32 8)) % 256] ++ [((16 * (ctxN K (mSrc K (nb xs 8 8) (nb xs 16 8)) (nb xs 8 8))) + (ctxN K (mGoal K (nb xs 24 8) (nb xs 32 8)) (nb xs 24 8))) % 256]).take (tw_cap q)) ((tq_uR_ne _ _ hq1).trans hx) (tq_uR_same _ _ _) (tf := sqTF (pkT xs) (pkL xs)) (sqTF_lt _ _) sqTF_1) mm_X8_writeTraffic wd_358 rfl (by decide) rfl (Nat.le_of_ble_eq_true rfl) dX8_write_178 ?_
    rintro _ _ rfl
    show TW G X (tw_uR (tw_uR S q ((([] : List Nat) ++ [(sqB1 (sqTF (pkT xs) (pkL xs)) (sqHL (xs.getD 7 0)) true) % 256] ++ [(128 + (mSrc K (nb xs 8 8) (nb xs 16 8)) * 16 + mGoal K (nb xs 24 8) (nb xs 32 8)) % 256] ++ [((16 * (ctxN K (mSrc K (nb xs 8 8) (nb xs 16 8)) (nb xs 8 8))) + (ctxN K (mGoal K (nb xs 24 8) (nb xs 32 8)) (nb xs 24 8))) % 256]).take (tw_cap q))) q ((((([] : List Nat) ++ [(sqB1 (sqTF (pkT xs) (pkL xs)) (sqHL (xs.getD 7 0)) true) % 256] ++ [(128 + (mSrc K (nb xs 8 8) (nb xs 16 8)) * 16 + mGoal K (nb xs 24 8) (nb xs 32 8)) % 256] ++ [((16 * (ctxN K (mSrc K (nb xs 8 8) (nb xs 16 8)) (nb xs 8 8))) + (ctxN K (mGoal K (nb xs 24 8) (nb xs 32 8)) (nb xs 24 8))) % 256]).take (tw_cap q)) ++ sqTr (sqTF (pkT xs) (pkL xs)) (pkT xs) (pkL xs)).take (tw_cap q))) [(16, .int (nI ((16 * (ctxN K (mSrc K (nb xs 8 8) (nb xs 16 8)) (nb xs 8 8))) + (ctxN K (mGoal K (nb xs 24 8) (nb xs 32 8)) (nb xs 24 8))))), (15, .int (nI (mGoal K (nb xs 24 8) (nb xs 32 8)))), (14, .int (nI (mSrc K (nb xs 8 8) (nb xs 16 8)))), (12, .long (lN (nb xs 32 8))), (10, .long (lN (nb xs 24 8))), (8, .long (lN (nb xs 16 8))), (6, .long (lN (nb xs 8 8))), (5, .int (nI (sqHL (xs.getD 7 0)))), (4, .int (nI (sqTF (pkT xs) (pkL xs)))), (3, .int (bI (hasPB xs))), (0, .ref (tw_ad G 8)), (1, .ref (tw_ad G 1)), (2, .ref (tw_ad G q))] 181 []
    refine TW.sS (S' := tw_uR S q ((([] : List Nat) ++ [(sqB1 (sqTF (pkT xs) (pkL xs)) (sqHL (xs.getD 7 0)) true) % 256] ++ [(128 + (mSrc K (nb xs 8 8) (nb xs 16 8)) * 16 + mGoal K (nb xs 24 8) (nb xs 32 8)) % 256] ++ [((16 * (ctxN K (mSrc K (nb xs 8 8) (nb xs 16 8)) (nb xs 8 8))) + (ctxN K (mGoal K (nb xs 24 8) (nb xs 32 8)) (nb xs 24 8))) % 256] ++ sqTr (sqTF (pkT xs) (pkL xs)) (pkT xs) (pkL xs)).take (tw_cap q))) (by rw [tw_uR_uR, tk_tk]) ?_
    refine tw_iload_n C dX8_write_181 9 rfl ?_
    refine tb_if_ne C dX8_write_182 (tgt := 195) (by decide) (fun cb => ?_) (fun cb => ?_)
    · skip
      refine tw_iload C dX8_write_195 7 rfl ?_
      refine tn_if_ne C dX8_write_197 (tgt := 210) (by decide) (by omega) (fun ch => ?_) (fun ch => ?_)
      · skip
        refine tw_iload C dX8_write_210 2 rfl ?_
        refine tw_lload C dX8_write_212 6 rfl ?_
        refine tw_lload C dX8_write_214 5 rfl ?_
        refine tw_aload_n C dX8_write_216 12 rfl ?_
        refine tw_callS (As := [.int (nI (mSrc K (nb xs 8 8) (nb xs 16 8))), .long (lN (nb xs 8 8)), .long (lN (nb xs 16 8)), .ref (tw_ad G q)]) (rest := []) C N (c_X8_writeAddress hG hq (ys := (([] : List Nat) ++ [(sqB1 (sqTF (pkT xs) (pkL xs)) (sqHL (xs.getD 7 0)) true) % 256] ++ [(128 + (mSrc K (nb xs 8 8) (nb xs 16 8)) * 16 + mGoal K (nb xs 24 8) (nb xs 32 8)) % 256] ++ [((16 * (ctxN K (mSrc K (nb xs 8 8) (nb xs 16 8)) (nb xs 8 8))) + (ctxN K (mGoal K (nb xs 24 8) (nb xs 32 8)) (nb xs 24 8))) % 256] ++ sqTr (sqTF (pkT xs) (pkL xs)) (pkT xs) (pkL xs)).take (tw_cap q)) (tq_uR_same _ _ _) (m := mSrc K (nb xs 8 8) (nb xs 16 8)) (f := nb xs 8 8) (l := nb xs 16 8) (by omega) (by omega) (by omega)) mm_X8_writeAddress wd_362 rfl (by decide) rfl (Nat.le_of_ble_eq_true rfl) dX8_write_217 ?_
        rintro _ _ rfl
        show TW G X (tw_uR (tw_uR S q ((([] : List Nat) ++ [(sqB1 (sqTF (pkT xs) (pkL xs)) (sqHL (xs.getD 7 0)) true) % 256] ++ [(128 + (mSrc K (nb xs 8 8) (nb xs 16 8)) * 16 + mGoal K (nb xs 24 8) (nb xs 32 8)) % 256] ++ [((16 * (ctxN K (mSrc K (nb xs 8 8) (nb xs 16 8)) (nb xs 8 8))) + (ctxN K (mGoal K (nb xs 24 8) (nb xs 32 8)) (nb xs 24 8))) % 256] ++ sqTr (sqTF (pkT xs) (pkL xs)) (pkT xs) (pkL xs)).take (tw_cap q))) q ((((([] : List Nat) ++ [(sqB1 (sqTF (pkT xs) (pkL xs)) (sqHL (xs.getD 7 0)) true) % 256] ++ [(128 + (mSrc K (nb xs 8 8) (nb xs 16 8)) * 16 + mGoal K (nb xs 24 8) (nb xs 32 8)) % 256] ++ [((16 * (ctxN K (mSrc K (nb xs 8 8) (nb xs 16 8)) (nb xs 8 8))) + (ctxN K (mGoal K (nb xs 24 8) (nb xs 32 8)) (nb xs 24 8))) % 256] ++ sqTr (sqTF (pkT xs) (pkL xs)) (pkT xs) (pkL xs)).take (tw_cap q)) ++ sqAd (mSrc K (nb xs 8 8) (nb xs 16 8)) (nb xs 8 8) (nb xs 16 8)).take (tw_cap q))) [(16, .int (nI ((16 * (ctxN K (mSrc K (nb xs 8 8) (nb xs 16 8)) (nb xs 8 8))) + (ctxN K (mGoal K (nb xs 24 8) (nb xs 32 8)) (nb xs 24 8))))), (15, .int (nI (mGoal K (nb xs 24 8) (nb xs 32 8)))), (14, .int (nI (mSrc K (nb xs 8 8) (nb xs 16 8)))), (12, .long (lN (nb xs 32 8))), (10, .long (lN (nb xs 24 8))), (8, .long (lN (nb xs 16 8))), (6, .long (lN (nb xs 8 8))), (5, .int (nI (sqHL (xs.getD 7 0)))), (4, .int (nI (sqTF (pkT xs) (pkL xs)))), (3, .int (bI (hasPB xs))), (0, .ref (tw_ad G 8)), (1, .ref (tw_ad G 1)), (2, .ref (tw_ad G q))] 220 []
        refine TW.sS (S' := tw_uR S q ((([] : List Nat) ++ [(sqB1 (sqTF (pkT xs) (pkL xs)) (sqHL (xs.getD 7 0)) true) % 256] ++ [(128 + (mSrc K (nb xs 8 8) (nb xs 16 8)) * 16 + mGoal K (nb xs 24 8) (nb xs 32 8)) % 256] ++ [((16 * (ctxN K (mSrc K (nb xs 8 8) (nb xs 16 8)) (nb xs 8 8))) + (ctxN K (mGoal K (nb xs 24 8) (nb xs 32 8)) (nb xs 24 8))) % 256] ++ sqTr (sqTF (pkT xs) (pkL xs)) (pkT xs) (pkL xs) ++ sqAd (mSrc K (nb xs 8 8) (nb xs 16 8)) (nb xs 8 8) (nb xs 16 8)).take (tw_cap q))) (by rw [tw_uR_uR, tk_tk]) ?_
        refine tw_iload C dX8_write_220 1 rfl ?_
        refine tw_lload C dX8_write_222 4 rfl ?_
        refine tw_lload C dX8_write_224 3 rfl ?_
        refine tw_aload_n C dX8_write_226 12 rfl ?_
        refine tw_callS (As := [.int (nI (mGoal K (nb xs 24 8) (nb xs 32 8))), .long (lN (nb xs 24 8)), .long (lN (nb xs 32 8)), .ref (tw_ad G q)]) (rest := []) C N (c_X8_writeAddress hG hq (ys := (([] : List Nat) ++ [(sqB1 (sqTF (pkT xs) (pkL xs)) (sqHL (xs.getD 7 0)) true) % 256] ++ [(128 + (mSrc K (nb xs 8 8) (nb xs 16 8)) * 16 + mGoal K (nb xs 24 8) (nb xs 32 8)) % 256] ++ [((16 * (ctxN K (mSrc K (nb xs 8 8) (nb xs 16 8)) (nb xs 8 8))) + (ctxN K (mGoal K (nb xs 24 8) (nb xs 32 8)) (nb xs 24 8))) % 256] ++ sqTr (sqTF (pkT xs) (pkL xs)) (pkT xs) (pkL xs) ++ sqAd (mSrc K (nb xs 8 8) (nb xs 16 8)) (nb xs 8 8) (nb xs 16 8)).take (tw_cap q)) (tq_uR_same _ _ _) (m := mGoal K (nb xs 24 8) (nb xs 32 8)) (f := nb xs 24 8) (l := nb xs 32 8) (by omega) (by omega) (by omega)) mm_X8_writeAddress wd_362 rfl (by decide) rfl (Nat.le_of_ble_eq_true rfl) dX8_write_227 ?_
        rintro _ _ rfl
        show TW G X (tw_uR (tw_uR S q ((([] : List Nat) ++ [(sqB1 (sqTF (pkT xs) (pkL xs)) (sqHL (xs.getD 7 0)) true) % 256] ++ [(128 + (mSrc K (nb xs 8 8) (nb xs 16 8)) * 16 + mGoal K (nb xs 24 8) (nb xs 32 8)) % 256] ++ [((16 * (ctxN K (mSrc K (nb xs 8 8) (nb xs 16 8)) (nb xs 8 8))) + (ctxN K (mGoal K (nb xs 24 8) (nb xs 32 8)) (nb xs 24 8))) % 256] ++ sqTr (sqTF (pkT xs) (pkL xs)) (pkT xs) (pkL xs) ++ sqAd (mSrc K (nb xs 8 8) (nb xs 16 8)) (nb xs 8 8) (nb xs 16 8)).take (tw_cap q))) q ((((([] : List Nat) ++ [(sqB1 (sqTF (pkT xs) (pkL xs)) (sqHL (xs.getD 7 0)) true) % 256] ++ [(128 + (mSrc K (nb xs 8 8) (nb xs 16 8)) * 16 + mGoal K (nb xs 24 8) (nb xs 32 8)) % 256] ++ [((16 * (ctxN K (mSrc K (nb xs 8 8) (nb xs 16 8)) (nb xs 8 8))) + (ctxN K (mGoal K (nb xs 24 8) (nb xs 32 8)) (nb xs 24 8))) % 256] ++ sqTr (sqTF (pkT xs) (pkL xs)) (pkT xs) (pkL xs) ++ sqAd (mSrc K (nb xs 8 8) (nb xs 16 8)) (nb xs 8 8) (nb xs 16 8)).take (tw_cap q)) ++ sqAd (mGoal K (nb xs 24 8) (nb xs 32 8)) (nb xs 24 8) (nb xs 32 8)).take (tw_cap q))) [(16, .int (nI ((16 * (ctxN K (mSrc K (nb xs 8 8) (nb xs 16 8)) (nb xs 8 8))) + (ctxN K (mGoal K (nb xs 24 8) (nb xs 32 8)) (nb xs 24 8))))), (15, .int (nI (mGoal K (nb xs 24 8) (nb xs 32 8)))), (14, .int (nI (mSrc K (nb xs 8 8) (nb xs 16 8)))), (12, .long (lN (nb xs 32 8))), (10, .long (lN (nb xs 24 8))), (8, .long (lN (nb xs 16 8))), (6, .long (lN (nb xs 8 8))), (5, .int (nI (sqHL (xs.getD 7 0)))), (4, .int (nI (sqTF (pkT xs) (pkL xs)))), (3, .int (bI (hasPB xs))), (0, .ref (tw_ad G 8)), (1, .ref (tw_ad G 1)), (2, .ref (tw_ad G q))] 230 []
        refine TW.sS (S' := tw_uR S q ((([] : List Nat) ++ [(sqB1 (sqTF (pkT xs) (pkL xs)) (sqHL (xs.getD 7 0)) true) % 256] ++ [(128 + (mSrc K (nb xs 8 8) (nb xs 16 8)) * 16 + mGoal K (nb xs 24 8) (nb xs 32 8)) % 256] ++ [((16 * (ctxN K (mSrc K (nb xs 8 8) (nb xs 16 8)) (nb xs 8 8))) + (ctxN K (mGoal K (nb xs 24 8) (nb xs 32 8)) (nb xs 24 8))) % 256] ++ sqTr (sqTF (pkT xs) (pkL xs)) (pkT xs) (pkL xs) ++ sqAd (mSrc K (nb xs 8 8) (nb xs 16 8)) (nb xs 8 8) (nb xs 16 8) ++ sqAd (mGoal K (nb xs 24 8) (nb xs 32 8)) (nb xs 24 8) (nb xs 32 8)).take (tw_cap q))) (by rw [tw_uR_uR, tk_tk]) ?_
        refine tw_iload_n C dX8_write_230 9 rfl ?_
        refine tb_if_eq C dX8_write_231 (tgt := 239) (by decide) (fun cb => ?_) (fun cb => ?_)
        · exact absurd cb (by simp [hpb])
        refine tw_aload_n C dX8_write_234 11 rfl ?_
        refine tw_aload_n C dX8_write_235 12 rfl ?_
        refine tw_callS (As := [.ref (tw_ad G 1), .ref (tw_ad G q)]) (rest := []) C N (c_X8_writePorts hG hq hq1 (xs := xs) (ys := (([] : List Nat) ++ [(sqB1 (sqTF (pkT xs) (pkL xs)) (sqHL (xs.getD 7 0)) true) % 256] ++ [(128 + (mSrc K (nb xs 8 8) (nb xs 16 8)) * 16 + mGoal K (nb xs 24 8) (nb xs 32 8)) % 256] ++ [((16 * (ctxN K (mSrc K (nb xs 8 8) (nb xs 16 8)) (nb xs 8 8))) + (ctxN K (mGoal K (nb xs 24 8) (nb xs 32 8)) (nb xs 24 8))) % 256] ++ sqTr (sqTF (pkT xs) (pkL xs)) (pkT xs) (pkL xs) ++ sqAd (mSrc K (nb xs 8 8) (nb xs 16 8)) (nb xs 8 8) (nb xs 16 8) ++ sqAd (mGoal K (nb xs 24 8) (nb xs 32 8)) (nb xs 24 8) (nb xs 32 8)).take (tw_cap q)) ((tq_uR_ne _ _ hq1).trans hx) (tq_uR_same _ _ _)) mm_X8_writePorts wd_369 rfl (by decide) rfl (Nat.le_of_ble_eq_true rfl) dX8_write_236 ?_
        rintro _ _ rfl
        show TW G X (tw_uR (tw_uR S q ((([] : List Nat) ++ [(sqB1 (sqTF (pkT xs) (pkL xs)) (sqHL (xs.getD 7 0)) true) % 256] ++ [(128 + (mSrc K (nb xs 8 8) (nb xs 16 8)) * 16 + mGoal K (nb xs 24 8) (nb xs 32 8)) % 256] ++ [((16 * (ctxN K (mSrc K (nb xs 8 8) (nb xs 16 8)) (nb xs 8 8))) + (ctxN K (mGoal K (nb xs 24 8) (nb xs 32 8)) (nb xs 24 8))) % 256] ++ sqTr (sqTF (pkT xs) (pkL xs)) (pkT xs) (pkL xs) ++ sqAd (mSrc K (nb xs 8 8) (nb xs 16 8)) (nb xs 8 8) (nb xs 16 8) ++ sqAd (mGoal K (nb xs 24 8) (nb xs 32 8)) (nb xs 24 8) (nb xs 32 8)).take (tw_cap q))) q ((((([] : List Nat) ++ [(sqB1 (sqTF (pkT xs) (pkL xs)) (sqHL (xs.getD 7 0)) true) % 256] ++ [(128 + (mSrc K (nb xs 8 8) (nb xs 16 8)) * 16 + mGoal K (nb xs 24 8) (nb xs 32 8)) % 256] ++ [((16 * (ctxN K (mSrc K (nb xs 8 8) (nb xs 16 8)) (nb xs 8 8))) + (ctxN K (mGoal K (nb xs 24 8) (nb xs 32 8)) (nb xs 24 8))) % 256] ++ sqTr (sqTF (pkT xs) (pkL xs)) (pkT xs) (pkL xs) ++ sqAd (mSrc K (nb xs 8 8) (nb xs 16 8)) (nb xs 8 8) (nb xs 16 8) ++ sqAd (mGoal K (nb xs 24 8) (nb xs 32 8)) (nb xs 24 8) (nb xs 32 8)).take (tw_cap q)) ++ sqPo (nb xs 40 2) (nb xs 42 2) (nb xs 46 2)).take (tw_cap q))) [(16, .int (nI ((16 * (ctxN K (mSrc K (nb xs 8 8) (nb xs 16 8)) (nb xs 8 8))) + (ctxN K (mGoal K (nb xs 24 8) (nb xs 32 8)) (nb xs 24 8))))), (15, .int (nI (mGoal K (nb xs 24 8) (nb xs 32 8)))), (14, .int (nI (mSrc K (nb xs 8 8) (nb xs 16 8)))), (12, .long (lN (nb xs 32 8))), (10, .long (lN (nb xs 24 8))), (8, .long (lN (nb xs 16 8))), (6, .long (lN (nb xs 8 8))), (5, .int (nI (sqHL (xs.getD 7 0)))), (4, .int (nI (sqTF (pkT xs) (pkL xs)))), (3, .int (bI (hasPB xs))), (0, .ref (tw_ad G 8)), (1, .ref (tw_ad G 1)), (2, .ref (tw_ad G q))] 239 []
        refine TW.sS (S' := tw_uR S q ((([] : List Nat) ++ [(sqB1 (sqTF (pkT xs) (pkL xs)) (sqHL (xs.getD 7 0)) true) % 256] ++ [(128 + (mSrc K (nb xs 8 8) (nb xs 16 8)) * 16 + mGoal K (nb xs 24 8) (nb xs 32 8)) % 256] ++ [((16 * (ctxN K (mSrc K (nb xs 8 8) (nb xs 16 8)) (nb xs 8 8))) + (ctxN K (mGoal K (nb xs 24 8) (nb xs 32 8)) (nb xs 24 8))) % 256] ++ sqTr (sqTF (pkT xs) (pkL xs)) (pkT xs) (pkL xs) ++ sqAd (mSrc K (nb xs 8 8) (nb xs 16 8)) (nb xs 8 8) (nb xs 16 8) ++ sqAd (mGoal K (nb xs 24 8) (nb xs 32 8)) (nb xs 24 8) (nb xs 32 8) ++ sqPo (nb xs 40 2) (nb xs 42 2) (nb xs 46 2)).take (tw_cap q))) (by rw [tw_uR_uR, tk_tk]) ?_
        refine TW.sS (S' := tw_uR S q ((sqHd K xs).take (tw_cap q))) (by congr 2; simp only [sqHd, sqB2, hpb, if_neg (Nat.pos_iff_ne_zero.mp hc0), if_neg (Nat.pos_iff_ne_zero.mp hl0), hm1, hm2, hm2z, hm3, hm6, hm7, if_true, if_false, Bool.false_eq_true, List.nil_append, List.append_nil, List.append_assoc]) ?_
        refine tw_aload_n C dX8_write_239 12 rfl ?_
        refine tw_callV (As := []) (rest := []) C N (e_X7_length hG hq (xs := (sqHd K xs).take (tw_cap q)) (tq_uR_same _ _ _) ) mm_X7_length wd_372 rfl (hG _ (tw_row_lt hq).2) (tw_row_sh hq) rfl (by decide) rfl (Nat.le_of_ble_eq_true rfl) dX8_write_240 ?_
        rintro _ _ ⟨rfl, rfl⟩
        show TW G X (tw_uR S q ((sqHd K xs).take (tw_cap q))) [(16, .int (nI ((16 * (ctxN K (mSrc K (nb xs 8 8) (nb xs 16 8)) (nb xs 8 8))) + (ctxN K (mGoal K (nb xs 24 8) (nb xs 32 8)) (nb xs 24 8))))), (15, .int (nI (mGoal K (nb xs 24 8) (nb xs 32 8)))), (14, .int (nI (mSrc K (nb xs 8 8) (nb xs 16 8)))), (12, .long (lN (nb xs 32 8))), (10, .long (lN (nb xs 24 8))), (8, .long (lN (nb xs 16 8))), (6, .long (lN (nb xs 8 8))), (5, .int (nI (sqHL (xs.getD 7 0)))), (4, .int (nI (sqTF (pkT xs) (pkL xs)))), (3, .int (bI (hasPB xs))), (0, .ref (tw_ad G 8)), (1, .ref (tw_ad G 1)), (2, .ref (tw_ad G q))] 243 [.int (nI (((sqHd K xs).take (tw_cap q)).length))]
        refine tw_istore (L' := [(17, .int (nI (((sqHd K xs).take (tw_cap q)).length))), (16, .int (nI ((16 * (ctxN K (mSrc K (nb xs 8 8) (nb xs 16 8)) (nb xs 8 8))) + (ctxN K (mGoal K (nb xs 24 8) (nb xs 32 8)) (nb xs 24 8))))), (15, .int (nI (mGoal K (nb xs 24 8) (nb xs 32 8)))), (14, .int (nI (mSrc K (nb xs 8 8) (nb xs 16 8)))), (12, .long (lN (nb xs 32 8))), (10, .long (lN (nb xs 24 8))), (8, .long (lN (nb xs 16 8))), (6, .long (lN (nb xs 8 8))), (5, .int (nI (sqHL (xs.getD 7 0)))), (4, .int (nI (sqTF (pkT xs) (pkL xs)))), (3, .int (bI (hasPB xs))), (0, .ref (tw_ad G 8)), (1, .ref (tw_ad G 1)), (2, .ref (tw_ad G q))]) C N dX8_write_243 (i := 17) (by decide) rfl ?_
        refine tw_aload_n C dX8_write_245 13 rfl ?_
        refine tw_aload_n C dX8_write_246 12 rfl ?_
        refine tw_aload_n C dX8_write_247 12 rfl ?_
        refine tw_callS (As := [.ref (tw_ad G 1)]) (rest := [.ref (tw_ad G 1), .ref (tw_ad G q)]) C N (c_X5_headOf hG tw_row1 (xs := xs) ((tq_uR_ne _ _ hq1).trans hx)) mm_X5_headOf wd_373 rfl (by decide) rfl (Nat.le_of_ble_eq_true rfl) dX8_write_248 ?_
        rintro _ _ ⟨rfl, rfl⟩
        show TW G X (tw_uR S q ((sqHd K xs).take (tw_cap q))) [(17, .int (nI (((sqHd K xs).take (tw_cap q)).length))), (16, .int (nI ((16 * (ctxN K (mSrc K (nb xs 8 8) (nb xs 16 8)) (nb xs 8 8))) + (ctxN K (mGoal K (nb xs 24 8) (nb xs 32 8)) (nb xs 24 8))))), (15, .int (nI (mGoal K (nb xs 24 8) (nb xs 32 8)))), (14, .int (nI (mSrc K (nb xs 8 8) (nb xs 16 8)))), (12, .long (lN (nb xs 32 8))), (10, .long (lN (nb xs 24 8))), (8, .long (lN (nb xs 16 8))), (6, .long (lN (nb xs 8 8))), (5, .int (nI (sqHL (xs.getD 7 0)))), (4, .int (nI (sqTF (pkT xs) (pkL xs)))), (3, .int (bI (hasPB xs))), (0, .ref (tw_ad G 8)), (1, .ref (tw_ad G 1)), (2, .ref (tw_ad G q))] 251 [.int (nI (pkH xs)), .ref (tw_ad G 1), .ref (tw_ad G q)]
        refine tw_aload_n C dX8_write_251 12 rfl ?_
        refine tw_callV (As := []) (rest := [.int (nI (pkH xs)), .ref (tw_ad G 1), .ref (tw_ad G q)]) C N (e_X7_length hG tw_row1 (xs := xs) ((tq_uR_ne _ _ hq1).trans hx) ) mm_X7_length wd_372 rfl (hG 1 (by decide)) sh_1 rfl (by decide) rfl (Nat.le_of_ble_eq_true rfl) dX8_write_252 ?_
        rintro _ _ ⟨rfl, rfl⟩
        show TW G X (tw_uR S q ((sqHd K xs).take (tw_cap q))) [(17, .int (nI (((sqHd K xs).take (tw_cap q)).length))), (16, .int (nI ((16 * (ctxN K (mSrc K (nb xs 8 8) (nb xs 16 8)) (nb xs 8 8))) + (ctxN K (mGoal K (nb xs 24 8) (nb xs 32 8)) (nb xs 24 8))))), (15, .int (nI (mGoal K (nb xs 24 8) (nb xs 32 8)))), (14, .int (nI (mSrc K (nb xs 8 8) (nb xs 16 8)))), (12, .long (lN (nb xs 32 8))), (10, .long (lN (nb xs 24 8))), (8, .long (lN (nb xs 16 8))), (6, .long (lN (nb xs 8 8))), (5, .int (nI (sqHL (xs.getD 7 0)))), (4, .int (nI (sqTF (pkT xs) (pkL xs)))), (3, .int (bI (hasPB xs))), (0, .ref (tw_ad G 8)), (1, .ref (tw_ad G 1)), (2, .ref (tw_ad G q))] 255 [.int (nI xs.length), .int (nI (pkH xs)), .ref (tw_ad G 1), .ref (tw_ad G q)]
        have hphp : pkH xs ≤ 48 := by unfold pkH; split <;> omega
        refine tw_callV (As := [.ref (tw_ad G 1), .int (nI (pkH xs)), .int (nI xs.length)]) (rest := []) C N (e_X7_addAll hG hq (xs := (sqHd K xs).take (tw_cap q)) (tq_uR_same _ _ _) tw_row1 hq1 (ys := xs) ((tq_uR_ne _ _ hq1).trans hx) (a := pkH xs) (e := xs.length) (by omega) (by omega)) mm_X7_addAll wd_377 rfl (hG _ (tw_row_lt hq).2) (tw_row_sh hq) rfl (by decide) rfl (Nat.le_of_ble_eq_true rfl) dX8_write_255 ?_
        rintro _ _ rfl
        show TW G X (tw_uR (tw_uR S q ((sqHd K xs).take (tw_cap q))) q ((((sqHd K xs).take (tw_cap q)) ++ cutD xs (pkH xs) (xs.length - (pkH xs))).take (tw_cap q))) [(17, .int (nI (((sqHd K xs).take (tw_cap q)).length))), (16, .int (nI ((16 * (ctxN K (mSrc K (nb xs 8 8) (nb xs 16 8)) (nb xs 8 8))) + (ctxN K (mGoal K (nb xs 24 8) (nb xs 32 8)) (nb xs 24 8))))), (15, .int (nI (mGoal K (nb xs 24 8) (nb xs 32 8)))), (14, .int (nI (mSrc K (nb xs 8 8) (nb xs 16 8)))), (12, .long (lN (nb xs 32 8))), (10, .long (lN (nb xs 24 8))), (8, .long (lN (nb xs 16 8))), (6, .long (lN (nb xs 8 8))), (5, .int (nI (sqHL (xs.getD 7 0)))), (4, .int (nI (sqTF (pkT xs) (pkL xs)))), (3, .int (bI (hasPB xs))), (0, .ref (tw_ad G 8)), (1, .ref (tw_ad G 1)), (2, .ref (tw_ad G q))] 258 []
        refine TW.sS (S' := tw_uR S q ((sqHd K xs ++ cutD xs (pkH xs) (xs.length - (pkH xs))).take (tw_cap q))) (by rw [tw_uR_uR, tk_tk]) ?_
        refine tw_iload C dX8_write_258 0 rfl ?_
        exact tw_ireturn C Q dX8_write_260 rfl rfl rfl ⟨by rw [List.length_take, Nat.min_eq_right (by omega)], rfl⟩
      · exact absurd ch (by omega)
    · exact absurd cb (by simp [hpb])
  · skip
    refine tw_bipush C dX8_write_116 (v := nI 96) (by decide) ?_
    refine tw_iload C dX8_write_118 8 rfl ?_
    refine tw_iconst C dX8_write_120 (v := nI 3) (by decide) ?_
    refine tw_ishl C dX8_write_121 (v := nI ((sqTF (pkT xs) (pkL xs)) * 8)) (nI_shl _ 3 (by decide)) ?_
    refine tw_ior C dX8_write_122 (v := nI (96 ||| ((sqTF (pkT xs) (pkL xs)) * 8))) (nI_or _ _) ?_
    refine tw_iload_n C dX8_write_123 9 rfl ?_
    refine tb_if_eq C dX8_write_124 (tgt := 131) (by decide) (fun cb => ?_) (fun cb => ?_)
    · skip
      refine tw_iconst C dX8_write_131 (v := nI 0) (by decide) ?_
      refine tw_ior C dX8_write_132 (v := nI ((96 ||| ((sqTF (pkT xs) (pkL xs)) * 8)) ||| 0)) (nI_or _ _) ?_
      refine tw_iload C dX8_write_133 7 rfl ?_
      refine tw_ior C dX8_write_135 (v := nI (sqB1 (sqTF (pkT xs) (pkL xs)) (sqHL (xs.getD 7 0)) false)) (by rw [nI_or, (sqB1_or _ (sqTF_lt _ _) _ (sqHL_lt _)).2.1]) ?_
      refine tw_callV (As := [.int (nI (sqB1 (sqTF (pkT xs) (pkL xs)) (sqHL (xs.getD 7 0)) false))]) (rest := []) C N (e_X7_add hG hq (xs := (([] : List Nat)).take (tw_cap q)) (tq_uR_same _ _ _) (x := sqB1 (sqTF (pkT xs) (pkL xs)) (sqHL (xs.getD 7 0)) false)) mm_X7_add wd_357 rfl (hG _ (tw_row_lt hq).2) (tw_row_sh hq) rfl (by decide) rfl (Nat.le_of_ble_eq_true rfl) dX8_write_136 ?_
      rintro _ _ rfl
      show TW G X (tw_uR (tw_uR S q ((([] : List Nat)).take (tw_cap q))) q ((((([] : List Nat)).take (tw_cap q)) ++ [(sqB1 (sqTF (pkT xs) (pkL xs)) (sqHL (xs.getD 7 0)) false) % 256]).take (tw_cap q))) [(16, .int (nI ((16 * (ctxN K (mSrc K (nb xs 8 8) (nb xs 16 8)) (nb xs 8 8))) + (ctxN K (mGoal K (nb xs 24 8) (nb xs 32 8)) (nb xs 24 8))))), (15, .int (nI (mGoal K (nb xs 24 8) (nb xs 32 8)))), (14, .int (nI (mSrc K (nb xs 8 8) (nb xs 16 8)))), (12, .long (lN (nb xs 32 8))), (10, .long (lN (nb xs 24 8))), (8, .long (lN (nb xs 16 8))), (6, .long (lN (nb xs 8 8))), (5, .int (nI (sqHL (xs.getD 7 0)))), (4, .int (nI (sqTF (pkT xs) (pkL xs)))), (3, .int (bI (hasPB xs))), (0, .ref (tw_ad G 8)), (1, .ref (tw_ad G 1)), (2, .ref (tw_ad G q))] 139 []
      refine TW.sS (S' := tw_uR S q ((([] : List Nat) ++ [(sqB1 (sqTF (pkT xs) (pkL xs)) (sqHL (xs.getD 7 0)) false) % 256]).take (tw_cap q))) (by rw [tw_uR_uR, tk_tk]) ?_
      refine tw_aload_n C dX8_write_139 12 rfl ?_
      refine tw_iload C dX8_write_140 0 rfl ?_
      refine tn_if_eq C dX8_write_142 (tgt := 151) (by decide) (by omega) (fun cc => ?_) (fun cc => ?_)
      · skip
        refine tw_iconst C dX8_write_151 (v := nI 0) (by decide) ?_
        refine tw_iload C dX8_write_152 2 rfl ?_
        refine tw_iconst C dX8_write_154 (v := nI 4) (by decide) ?_
        refine tw_ishl C dX8_write_155 (v := nI ((mSrc K (nb xs 8 8) (nb xs 16 8)) * 16)) (nI_shl _ 4 (by decide)) ?_
        refine tw_ior C dX8_write_156 (v := nI (0 ||| ((mSrc K (nb xs 8 8) (nb xs 16 8)) * 16))) (nI_or _ _) ?_
        refine tw_iload C dX8_write_157 1 rfl ?_
        refine tw_ior C dX8_write_159 (v := nI (0 + (mSrc K (nb xs 8 8) (nb xs 16 8)) * 16 + mGoal K (nb xs 24 8) (nb xs 32 8))) (by rw [nI_or, (sqB2_or _ (by omega) _ (by omega)).2.1]) ?_
        refine tw_callV (As := [.int (nI (0 + (mSrc K (nb xs 8 8) (nb xs 16 8)) * 16 + mGoal K (nb xs 24 8) (nb xs 32 8)))]) (rest := []) C N (e_X7_add hG hq (xs := (([] : List Nat) ++ [(sqB1 (sqTF (pkT xs) (pkL xs)) (sqHL (xs.getD 7 0)) false) % 256]).take (tw_cap q)) (tq_uR_same _ _ _) (x := 0 + (mSrc K (nb xs 8 8) (nb xs 16 8)) * 16 + mGoal K (nb xs 24 8) (nb xs 32 8))) mm_X7_add wd_357 rfl (hG _ (tw_row_lt hq).2) (tw_row_sh hq) rfl (by decide) rfl (Nat.le_of_ble_eq_true rfl) dX8_write_160 ?_
        rintro _ _ rfl
        show TW G X (tw_uR (tw_uR S q ((([] : List Nat) ++ [(sqB1 (sqTF (pkT xs) (pkL xs)) (sqHL (xs.getD 7 0)) false) % 256]).take (tw_cap q))) q ((((([] : List Nat) ++ [(sqB1 (sqTF (pkT xs) (pkL xs)) (sqHL (xs.getD 7 0)) false) % 256]).take (tw_cap q)) ++ [(0 + (mSrc K (nb xs 8 8) (nb xs 16 8)) * 16 + mGoal K (nb xs 24 8) (nb xs 32 8)) % 256]).take (tw_cap q))) [(16, .int (nI ((16 * (ctxN K (mSrc K (nb xs 8 8) (nb xs 16 8)) (nb xs 8 8))) + (ctxN K (mGoal K (nb xs 24 8) (nb xs 32 8)) (nb xs 24 8))))), (15, .int (nI (mGoal K (nb xs 24 8) (nb xs 32 8)))), (14, .int (nI (mSrc K (nb xs 8 8) (nb xs 16 8)))), (12, .long (lN (nb xs 32 8))), (10, .long (lN (nb xs 24 8))), (8, .long (lN (nb xs 16 8))), (6, .long (lN (nb xs 8 8))), (5, .int (nI (sqHL (xs.getD 7 0)))), (4, .int (nI (sqTF (pkT xs) (pkL xs)))), (3, .int (bI (hasPB xs))), (0, .ref (tw_ad G 8)), (1, .ref (tw_ad G 1)), (2, .ref (tw_ad G q))] 163 []
        refine TW.sS (S' := tw_uR S q ((([] : List Nat) ++ [(sqB1 (sqTF (pkT xs) (pkL xs)) (sqHL (xs.getD 7 0)) false) % 256] ++ [(0 + (mSrc K (nb xs 8 8) (nb xs 16 8)) * 16 + mGoal K (nb xs 24 8) (nb xs 32 8)) % 256]).take (tw_cap q))) (by rw [tw_uR_uR, tk_tk]) ?_
        refine tw_iload C dX8_write_163 0 rfl ?_
        refine tn_if_eq C dX8_write_165 (tgt := 174) (by decide) (by omega) (fun cc => ?_) (fun cc => ?_)
        · skip
          refine tw_aload_n C dX8_write_174 11 rfl ?_
          refine tw_iload C dX8_write_175 8 rfl ?_
          refine tw_aload_n C dX8_write_177 12 rfl ?_
          refine tw_callS (As := [.ref (tw_ad G 1), .int (nI (sqTF (pkT xs) (pkL xs))), .ref (tw_ad G q)]) (rest := []) C N (c_X8_writeTraffic hG hq hq1 (xs := xs) (ys := (([] : List Nat) ++ [(sqB1 (sqTF (pkT xs) (pkL xs)) (sqHL (xs.getD 7 0)) false) % 256] ++ [(0 + (mSrc K (nb xs 8 8) (nb xs 16 8)) * 16 + mGoal K (nb xs 24 8) (nb xs 32 8)) % 256]).take (tw_cap q)) ((tq_uR_ne _ _ hq1).trans hx) (tq_uR_same _ _ _) (tf := sqTF (pkT xs) (pkL xs)) (sqTF_lt _ _) sqTF_1) mm_X8_writeTraffic wd_358 rfl (by decide) rfl (Nat.le_of_ble_eq_true rfl) dX8_write_178 ?_
          rintro _ _ rfl
          show TW G X (tw_uR (tw_uR S q ((([] : List Nat) ++ [(sqB1 (sqTF (pkT xs) (pkL xs)) (sqHL (xs.getD 7 0)) false) % 256] ++ [(0 + (mSrc K (nb xs 8 8) (nb xs 16 8)) * 16 + mGoal K (nb xs 24 8) (nb xs 32 8)) % 256]).take (tw_cap q))) q ((((([] : List Nat) ++ [(sqB1 (sqTF (pkT xs) (pkL xs)) (sqHL (xs.getD 7 0)) false) % 256] ++ [(0 + (mSrc K (nb xs 8 8) (nb xs 16 8)) * 16 + mGoal K (nb xs 24 8) (nb xs 32 8)) % 256]).take (tw_cap q)) ++ sqTr (sqTF (pkT xs) (pkL xs)) (pkT xs) (pkL xs)).take (tw_cap q))) [(16, .int (nI ((16 * (ctxN K (mSrc K (nb xs 8 8) (nb xs 16 8)) (nb xs 8 8))) + (ctxN K (mGoal K (nb xs 24 8) (nb xs 32 8)) (nb xs 24 8))))), (15, .int (nI (mGoal K (nb xs 24 8) (nb xs 32 8)))), (14, .int (nI (mSrc K (nb xs 8 8) (nb xs 16 8)))), (12, .long (lN (nb xs 32 8))), (10, .long (lN (nb xs 24 8))), (8, .long (lN (nb xs 16 8))), (6, .long (lN (nb xs 8 8))), (5, .int (nI (sqHL (xs.getD 7 0)))), (4, .int (nI (sqTF (pkT xs) (pkL xs)))), (3, .int (bI (hasPB xs))), (0, .ref (tw_ad G 8)), (1, .ref (tw_ad G 1)), (2, .ref (tw_ad G q))] 181 []
          refine TW.sS (S' := tw_uR S q ((([] : List Nat) ++ [(sqB1 (sqTF (pkT xs) (pkL xs)) (sqHL (xs.getD 7 0)) false) % 256] ++ [(0 + (mSrc K (nb xs 8 8) (nb xs 16 8)) * 16 + mGoal K (nb xs 24 8) (nb xs 32 8)) % 256] ++ sqTr (sqTF (pkT xs) (pkL xs)) (pkT xs) (pkL xs)).take (tw_cap q))) (by rw [tw_uR_uR, tk_tk]) ?_
          refine tw_iload_n C dX8_write_181 9 rfl ?_
          refine tb_if_ne C dX8_write_182 (tgt := 195) (by decide) (fun cb => ?_) (fun cb => ?_)
          · exact absurd cb (by simp [hpb])
          refine tw_aload_n C dX8_write_185 12 rfl ?_
          refine tw_aload_n C dX8_write_186 11 rfl ?_
          refine tw_bipush C dX8_write_187 (v := nI 6) (by decide) ?_
          refine tw_callV (As := [.int (nI 6)]) (rest := [.ref (tw_ad G q)]) C N (e_X7_at hG tw_row1 (xs := xs) ((tq_uR_ne _ _ hq1).trans hx) (i := 6) (by omega)) mm_X7_at wd_314 rfl (hG 1 (by decide)) sh_1 rfl (by decide) rfl (Nat.le_of_ble_eq_true rfl) dX8_write_189 ?_
          rintro _ _ ⟨rfl, rfl⟩
          show TW G X (tw_uR S q ((([] : List Nat) ++ [(sqB1 (sqTF (pkT xs) (pkL xs)) (sqHL (xs.getD 7 0)) false) % 256] ++ [(0 + (mSrc K (nb xs 8 8) (nb xs 16 8)) * 16 + mGoal K (nb xs 24 8) (nb xs 32 8)) % 256] ++ sqTr (sqTF (pkT xs) (pkL xs)) (pkT xs) (pkL xs)).take (tw_cap q))) [(16, .int (nI ((16 * (ctxN K (mSrc K (nb xs 8 8) (nb xs 16 8)) (nb xs 8 8))) + (ctxN K (mGoal K (nb xs 24 8) (nb xs 32 8)) (nb xs 24 8))))), (15, .int (nI (mGoal K (nb xs 24 8) (nb xs 32 8)))), (14, .int (nI (mSrc K (nb xs 8 8) (nb xs 16 8)))), (12, .long (lN (nb xs 32 8))), (10, .long (lN (nb xs 24 8))), (8, .long (lN (nb xs 16 8))), (6, .long (lN (nb xs 8 8))), (5, .int (nI (sqHL (xs.getD 7 0)))), (4, .int (nI (sqTF (pkT xs) (pkL xs)))), (3, .int (bI (hasPB xs))), (0, .ref (tw_ad G 8)), (1, .ref (tw_ad G 1)), (2, .ref (tw_ad G q))] 192 [.int (nI (xs.getD 6 0)), .ref (tw_ad G q)]
          refine tw_callV (As := [.int (nI (xs.getD 6 0))]) (rest := []) C N (e_X7_add hG hq (xs := (([] : List Nat) ++ [(sqB1 (sqTF (pkT xs) (pkL xs)) (sqHL (xs.getD 7 0)) false) % 256] ++ [(0 + (mSrc K (nb xs 8 8) (nb xs 16 8)) * 16 + mGoal K (nb xs 24 8) (nb xs 32 8)) % 256] ++ sqTr (sqTF (pkT xs) (pkL xs)) (pkT xs) (pkL xs)).take (tw_cap q)) (tq_uR_same _ _ _) (x := xs.getD 6 0)) mm_X7_add wd_357 rfl (hG _ (tw_row_lt hq).2) (tw_row_sh hq) rfl (by decide) rfl (Nat.le_of_ble_eq_true rfl) dX8_write_192 ?_
          rintro _ _ rfl
          show TW G X (tw_uR (tw_uR S q ((([] : List Nat) ++ [(sqB1 (sqTF (pkT xs) (pkL xs)) (sqHL (xs.getD 7 0)) false) % 256] ++ [(0 + (mSrc K (nb xs 8 8) (nb xs 16 8)) * 16 + mGoal K (nb xs 24 8) (nb xs 32 8)) % 256] ++ sqTr (sqTF (pkT xs) (pkL xs)) (pkT xs) (pkL xs)).take (tw_cap q))) q ((((([] : List Nat) ++ [(sqB1 (sqTF (pkT xs) (pkL xs)) (sqHL (xs.getD 7 0)) false) % 256] ++ [(0 + (mSrc K (nb xs 8 8) (nb xs 16 8)) * 16 + mGoal K (nb xs 24 8) (nb xs 32 8)) % 256] ++ sqTr (sqTF (pkT xs) (pkL xs)) (pkT xs) (pkL xs)).take (tw_cap q)) ++ [(xs.getD 6 0) % 256]).take (tw_cap q))) [(16, .int (nI ((16 * (ctxN K (mSrc K (nb xs 8 8) (nb xs 16 8)) (nb xs 8 8))) + (ctxN K (mGoal K (nb xs 24 8) (nb xs 32 8)) (nb xs 24 8))))), (15, .int (nI (mGoal K (nb xs 24 8) (nb xs 32 8)))), (14, .int (nI (mSrc K (nb xs 8 8) (nb xs 16 8)))), (12, .long (lN (nb xs 32 8))), (10, .long (lN (nb xs 24 8))), (8, .long (lN (nb xs 16 8))), (6, .long (lN (nb xs 8 8))), (5, .int (nI (sqHL (xs.getD 7 0)))), (4, .int (nI (sqTF (pkT xs) (pkL xs)))), (3, .int (bI (hasPB xs))), (0, .ref (tw_ad G 8)), (1, .ref (tw_ad G 1)), (2, .ref (tw_ad G q))] 195 []
          refine TW.sS (S' := tw_uR S q ((([] : List Nat) ++ [(sqB1 (sqTF (pkT xs) (pkL xs)) (sqHL (xs.getD 7 0)) false) % 256] ++ [(0 + (mSrc K (nb xs 8 8) (nb xs 16 8)) * 16 + mGoal K (nb xs 24 8) (nb xs 32 8)) % 256] ++ sqTr (sqTF (pkT xs) (pkL xs)) (pkT xs) (pkL xs) ++ [(xs.getD 6 0) % 256]).take (tw_cap q))) (by rw [tw_uR_uR, tk_tk]) ?_
          refine tw_iload C dX8_write_195 7 rfl ?_
          refine tn_if_ne C dX8_write_197 (tgt := 210) (by decide) (by omega) (fun ch => ?_) (fun ch => ?_)
          · exact absurd ch (by omega)
          refine tw_aload_n C dX8_write_200 12 rfl ?_
          refine tw_aload_n C dX8_write_201 11 rfl ?_
          refine tw_bipush C dX8_write_202 (v := nI 7) (by decide) ?_
          refine tw_callV (As := [.int (nI 7)]) (rest := [.ref (tw_ad G q)]) C N (e_X7_at hG tw_row1 (xs := xs) ((tq_uR_ne _ _ hq1).trans hx) (i := 7) (by omega)) mm_X7_at wd_314 rfl (hG 1 (by decide)) sh_1 rfl (by decide) rfl (Nat.le_of_ble_eq_true rfl) dX8_write_204 ?_
          rintro _ _ ⟨rfl, rfl⟩
          show TW G X (tw_uR S q ((([] : List Nat) ++ [(sqB1 (sqTF (pkT xs) (pkL xs)) (sqHL (xs.getD 7 0)) false) % 256] ++ [(0 + (mSrc K (nb xs 8 8) (nb xs 16 8)) * 16 + mGoal K (nb xs 24 8) (nb xs 32 8)) % 256] ++ sqTr (sqTF (pkT xs) (pkL xs)) (pkT xs) (pkL xs) ++ [(xs.getD 6 0) % 256]).take (tw_cap q))) [(16, .int (nI ((16 * (ctxN K (mSrc K (nb xs 8 8) (nb xs 16 8)) (nb xs 8 8))) + (ctxN K (mGoal K (nb xs 24 8) (nb xs 32 8)) (nb xs 24 8))))), (15, .int (nI (mGoal K (nb xs 24 8) (nb xs 32 8)))), (14, .int (nI (mSrc K (nb xs 8 8) (nb xs 16 8)))), (12, .long (lN (nb xs 32 8))), (10, .long (lN (nb xs 24 8))), (8, .long (lN (nb xs 16 8))), (6, .long (lN (nb xs 8 8))), (5, .int (nI (sqHL (xs.getD 7 0)))), (4, .int (nI (sqTF (pkT xs) (pkL xs)))), (3, .int (bI (hasPB xs))), (0, .ref (tw_ad G 8)), (1, .ref (tw_ad G 1)), (2, .ref (tw_ad G q))] 207 [.int (nI (xs.getD 7 0)), .ref (tw_ad G q)]
          refine tw_callV (As := [.int (nI (xs.getD 7 0))]) (rest := []) C N (e_X7_add hG hq (xs := (([] : List Nat) ++ [(sqB1 (sqTF (pkT xs) (pkL xs)) (sqHL (xs.getD 7 0)) false) % 256] ++ [(0 + (mSrc K (nb xs 8 8) (nb xs 16 8)) * 16 + mGoal K (nb xs 24 8) (nb xs 32 8)) % 256] ++ sqTr (sqTF (pkT xs) (pkL xs)) (pkT xs) (pkL xs) ++ [(xs.getD 6 0) % 256]).take (tw_cap q)) (tq_uR_same _ _ _) (x := xs.getD 7 0)) mm_X7_add wd_357 rfl (hG _ (tw_row_lt hq).2) (tw_row_sh hq) rfl (by decide) rfl (Nat.le_of_ble_eq_true rfl) dX8_write_207 ?_
          rintro _ _ rfl
          show TW G X (tw_uR (tw_uR S q ((([] : List Nat) ++ [(sqB1 (sqTF (pkT xs) (pkL xs)) (sqHL (xs.getD 7 0)) false) % 256] ++ [(0 + (mSrc K (nb xs 8 8) (nb xs 16 8)) * 16 + mGoal K (nb xs 24 8) (nb xs 32 8)) % 256] ++ sqTr (sqTF (pkT xs) (pkL xs)) (pkT xs) (pkL xs) ++ [(xs.getD 6 0) % 256]).take (tw_cap q))) q ((((([] : List Nat) ++ [(sqB1 (sqTF (pkT xs) (pkL xs)) (sqHL (xs.getD 7 0)) false) % 256] ++ [(0 + (mSrc K (nb xs 8 8) (nb xs 16 8)) * 16 + mGoal K (nb xs 24 8) (nb xs 32 8)) % 256] ++ sqTr (sqTF (pkT xs) (pkL xs)) (pkT xs) (pkL xs) ++ [(xs.getD 6 0) % 256]).take (tw_cap q)) ++ [(xs.getD 7 0) % 256]).take (tw_cap q))) [(16, .int (nI ((16 * (ctxN K (mSrc K (nb xs 8 8) (nb xs 16 8)) (nb xs 8 8))) + (ctxN K (mGoal K (nb xs 24 8) (nb xs 32 8)) (nb xs 24 8))))), (15, .int (nI (mGoal K (nb xs 24 8) (nb xs 32 8)))), (14, .int (nI (mSrc K (nb xs 8 8) (nb xs 16 8)))), (12, .long (lN (nb xs 32 8))), (10, .long (lN (nb xs 24 8))), (8, .long (lN (nb xs 16 8))), (6, .long (lN (nb xs 8 8))), (5, .int (nI (sqHL (xs.getD 7 0)))), (4, .int (nI (sqTF (pkT xs) (pkL xs)))), (3, .int (bI (hasPB xs))), (0, .ref (tw_ad G 8)), (1, .ref (tw_ad G 1)), (2, .ref (tw_ad G q))] 210 []
          refine TW.sS (S' := tw_uR S q ((([] : List Nat) ++ [(sqB1 (sqTF (pkT xs) (pkL xs)) (sqHL (xs.getD 7 0)) false) % 256] ++ [(0 + (mSrc K (nb xs 8 8) (nb xs 16 8)) * 16 + mGoal K (nb xs 24 8) (nb xs 32 8)) % 256] ++ sqTr (sqTF (pkT xs) (pkL xs)) (pkT xs) (pkL xs) ++ [(xs.getD 6 0) % 256] ++ [(xs.getD 7 0) % 256]).take (tw_cap q))) (by rw [tw_uR_uR, tk_tk]) ?_
          refine tw_iload C dX8_write_210 2 rfl ?_
          refine tw_lload C dX8_write_212 6 rfl ?_
          refine tw_lload C dX8_write_214 5 rfl ?_
          refine tw_aload_n C dX8_write_216 12 rfl ?_
          refine tw_callS (As := [.int (nI (mSrc K (nb xs 8 8) (nb xs 16 8))), .long (lN (nb xs 8 8)), .long (lN (nb xs 16 8)), .ref (tw_ad G q)]) (rest := []) C N (c_X8_writeAddress hG hq (ys := (([] : List Nat) ++ [(sqB1 (sqTF (pkT xs) (pkL xs)) (sqHL (xs.getD 7 0)) false) % 256] ++ [(0 + (mSrc K (nb xs 8 8) (nb xs 16 8)) * 16 + mGoal K (nb xs 24 8) (nb xs 32 8)) % 256] ++ sqTr (sqTF (pkT xs) (pkL xs)) (pkT xs) (pkL xs) ++ [(xs.getD 6 0) % 256] ++ [(xs.getD 7 0) % 256]).take (tw_cap q)) (tq_uR_same _ _ _) (m := mSrc K (nb xs 8 8) (nb xs 16 8)) (f := nb xs 8 8) (l := nb xs 16 8) (by omega) (by omega) (by omega)) mm_X8_writeAddress wd_362 rfl (by decide) rfl (Nat.le_of_ble_eq_true rfl) dX8_write_217 ?_
          rintro _ _ rfl
          show TW G X (tw_uR (tw_uR S q ((([] : List Nat) ++ [(sqB1 (sqTF (pkT xs) (pkL xs)) (sqHL (xs.getD 7 0)) false) % 256] ++ [(0 + (mSrc K (nb xs 8 8) (nb xs 16 8)) * 16 + mGoal K (nb xs 24 8) (nb xs 32 8)) % 256] ++ sqTr (sqTF (pkT xs) (pkL xs)) (pkT xs) (pkL xs) ++ [(xs.getD 6 0) % 256] ++ [(xs.getD 7 0) % 256]).take (tw_cap q))) q ((((([] : List Nat) ++ [(sqB1 (sqTF (pkT xs) (pkL xs)) (sqHL (xs.getD 7 0)) false) % 256] ++ [(0 + (mSrc K (nb xs 8 8) (nb xs 16 8)) * 16 + mGoal K (nb xs 24 8) (nb xs 32 8)) % 256] ++ sqTr (sqTF (pkT xs) (pkL xs)) (pkT xs) (pkL xs) ++ [(xs.getD 6 0) % 256] ++ [(xs.getD 7 0) % 256]).take (tw_cap q)) ++ sqAd (mSrc K (nb xs 8 8) (nb xs 16 8)) (nb xs 8 8) (nb xs 16 8)).take (tw_cap q))) [(16, .int (nI ((16 * (ctxN K (mSrc K (nb xs 8 8) (nb xs 16 8)) (nb xs 8 8))) + (ctxN K (mGoal K (nb xs 24 8) (nb xs 32 8)) (nb xs 24 8))))), (15, .int (nI (mGoal K (nb xs 24 8) (nb xs 32 8)))), (14, .int (nI (mSrc K (nb xs 8 8) (nb xs 16 8)))), (12, .long (lN (nb xs 32 8))), (10, .long (lN (nb xs 24 8))), (8, .long (lN (nb xs 16 8))), (6, .long (lN (nb xs 8 8))), (5, .int (nI (sqHL (xs.getD 7 0)))), (4, .int (nI (sqTF (pkT xs) (pkL xs)))), (3, .int (bI (hasPB xs))), (0, .ref (tw_ad G 8)), (1, .ref (tw_ad G 1)), (2, .ref (tw_ad G q))] 220 []
          refine TW.sS (S' := tw_uR S q ((([] : List Nat) ++ [(sqB1 (sqTF (pkT xs) (pkL xs)) (sqHL (xs.getD 7 0)) false) % 256] ++ [(0 + (mSrc K (nb xs 8 8) (nb xs 16 8)) * 16 + mGoal K (nb xs 24 8) (nb xs 32 8)) % 256] ++ sqTr (sqTF (pkT xs) (pkL xs)) (pkT xs) (pkL xs) ++ [(xs.getD 6 0) % 256] ++ [(xs.getD 7 0) % 256] ++ sqAd (mSrc K (nb xs 8 8) (nb xs 16 8)) (nb xs 8 8) (nb xs 16 8)).take (tw_cap q))) (by rw [tw_uR_uR, tk_tk]) ?_
          refine tw_iload C dX8_write_220 1 rfl ?_
          refine tw_lload C dX8_write_222 4 rfl ?_
          refine tw_lload C dX8_write_224 3 rfl ?_
          refine tw_aload_n C dX8_write_226 12 rfl ?_
          refine tw_callS (As := [.int (nI (mGoal K (nb xs 24 8) (nb xs 32 8))), .long (lN (nb xs 24 8)), .long (lN (nb xs 32 8)), .ref (tw_ad G q)]) (rest := []) C N (c_X8_writeAddress hG hq (ys := (([] : List Nat) ++ [(sqB1 (sqTF (pkT xs) (pkL xs)) (sqHL (xs.getD 7 0)) false) % 256] ++ [(0 + (mSrc K (nb xs 8 8) (nb xs 16 8)) * 16 + mGoal K (nb xs 24 8) (nb xs 32 8)) % 256] ++ sqTr (sqTF (pkT xs) (pkL xs)) (pkT xs) (pkL xs) ++ [(xs.getD 6 0) % 256] ++ [(xs.getD 7 0) % 256] ++ sqAd (mSrc K (nb xs 8 8) (nb xs 16 8)) (nb xs 8 8) (nb xs 16 8)).take (tw_cap q)) (tq_uR_same _ _ _) (m := mGoal K (nb xs 24 8) (nb xs 32 8)) (f := nb xs 24 8) (l := nb xs 32 8) (by omega) (by omega) (by omega)) mm_X8_writeAddress wd_362 rfl (by decide) rfl (Nat.le_of_ble_eq_true rfl) dX8_write_227 ?_
          rintro _ _ rfl
          show TW G X (tw_uR (tw_uR S q ((([] : List Nat) ++ [(sqB1 (sqTF (pkT xs) (pkL xs)) (sqHL (xs.getD 7 0)) false) % 256] ++ [(0 + (mSrc K (nb xs 8 8) (nb xs 16 8)) * 16 + mGoal K (nb xs 24 8) (nb xs 32 8)) % 256] ++ sqTr (sqTF (pkT xs) (pkL xs)) (pkT xs) (pkL xs) ++ [(xs.getD 6 0) % 256] ++ [(xs.getD 7 0) % 256] ++ sqAd (mSrc K (nb xs 8 8) (nb xs 16 8)) (nb xs 8 8) (nb xs 16 8)).take (tw_cap q))) q ((((([] : List Nat) ++ [(sqB1 (sqTF (pkT xs) (pkL xs)) (sqHL (xs.getD 7 0)) false) % 256] ++ [(0 + (mSrc K (nb xs 8 8) (nb xs 16 8)) * 16 + mGoal K (nb xs 24 8) (nb xs 32 8)) % 256] ++ sqTr (sqTF (pkT xs) (pkL xs)) (pkT xs) (pkL xs) ++ [(xs.getD 6 0) % 256] ++ [(xs.getD 7 0) % 256] ++ sqAd (mSrc K (nb xs 8 8) (nb xs 16 8)) (nb xs 8 8) (nb xs 16 8)).take (tw_cap q)) ++ sqAd (mGoal K (nb xs 24 8) (nb xs 32 8)) (nb xs 24 8) (nb xs 32 8)).take (tw_cap q))) [(16, .int (nI ((16 * (ctxN K (mSrc K (nb xs 8 8) (nb xs 16 8)) (nb xs 8 8))) + (ctxN K (mGoal K (nb xs 24 8) (nb xs 32 8)) (nb xs 24 8))))), (15, .int (nI (mGoal K (nb xs 24 8) (nb xs 32 8)))), (14, .int (nI (mSrc K (nb xs 8 8) (nb xs 16 8)))), (12, .long (lN (nb xs 32 8))), (10, .long (lN (nb xs 24 8))), (8, .long (lN (nb xs 16 8))), (6, .long (lN (nb xs 8 8))), (5, .int (nI (sqHL (xs.getD 7 0)))), (4, .int (nI (sqTF (pkT xs) (pkL xs)))), (3, .int (bI (hasPB xs))), (0, .ref (tw_ad G 8)), (1, .ref (tw_ad G 1)), (2, .ref (tw_ad G q))] 230 []
          refine TW.sS (S' := tw_uR S q ((([] : List Nat) ++ [(sqB1 (sqTF (pkT xs) (pkL xs)) (sqHL (xs.getD 7 0)) false) % 256] ++ [(0 + (mSrc K (nb xs 8 8) (nb xs 16 8)) * 16 + mGoal K (nb xs 24 8) (nb xs 32 8)) % 256] ++ sqTr (sqTF (pkT xs) (pkL xs)) (pkT xs) (pkL xs) ++ [(xs.getD 6 0) % 256] ++ [(xs.getD 7 0) % 256] ++ sqAd (mSrc K (nb xs 8 8) (nb xs 16 8)) (nb xs 8 8) (nb xs 16 8) ++ sqAd (mGoal K (nb xs 24 8) (nb xs 32 8)) (nb xs 24 8) (nb xs 32 8)).take (tw_cap q))) (by rw [tw_uR_uR, tk_tk]) ?_
          refine tw_iload_n C dX8_write_230 9 rfl ?_
          refine tb_if_eq C dX8_write_231 (tgt := 239) (by decide) (fun cb => ?_) (fun cb => ?_)
          · skip
            refine TW.sS (S' := tw_uR S q ((sqHd K xs).take (tw_cap q))) (by congr 2; simp only [sqHd, sqB2, hpb, if_pos hc0, if_pos hl0, hm1, hm2, hm2z, hm3, hm6, hm7, if_true, if_false, Bool.false_eq_true, List.nil_append, List.append_nil, List.append_assoc]) ?_
            refine tw_aload_n C dX8_write_239 12 rfl ?_
            refine tw_callV (As := []) (rest := []) C N (e_X7_length hG hq (xs := (sqHd K xs).take (tw_cap q)) (tq_uR_same _ _ _) ) mm_X7_length wd_372 rfl (hG _ (tw_row_lt hq).2) (tw_row_sh hq) rfl (by decide) rfl (Nat.le_of_ble_eq_true rfl) dX8_write_240 ?_
            rintro _ _ ⟨rfl, rfl⟩
            show TW G X (tw_uR S q ((sqHd K xs).take (tw_cap q))) [(16, .int (nI ((16 * (ctxN K (mSrc K (nb xs 8 8) (nb xs 16 8)) (nb xs 8 8))) + (ctxN K (mGoal K (nb xs 24 8) (nb xs 32 8)) (nb xs 24 8))))), (15, .int (nI (mGoal K (nb xs 24 8) (nb xs 32 8)))), (14, .int (nI (mSrc K (nb xs 8 8) (nb xs 16 8)))), (12, .long (lN (nb xs 32 8))), (10, .long (lN (nb xs 24 8))), (8, .long (lN (nb xs 16 8))), (6, .long (lN (nb xs 8 8))), (5, .int (nI (sqHL (xs.getD 7 0)))), (4, .int (nI (sqTF (pkT xs) (pkL xs)))), (3, .int (bI (hasPB xs))), (0, .ref (tw_ad G 8)), (1, .ref (tw_ad G 1)), (2, .ref (tw_ad G q))] 243 [.int (nI (((sqHd K xs).take (tw_cap q)).length))]
            refine tw_istore (L' := [(17, .int (nI (((sqHd K xs).take (tw_cap q)).length))), (16, .int (nI ((16 * (ctxN K (mSrc K (nb xs 8 8) (nb xs 16 8)) (nb xs 8 8))) + (ctxN K (mGoal K (nb xs 24 8) (nb xs 32 8)) (nb xs 24 8))))), (15, .int (nI (mGoal K (nb xs 24 8) (nb xs 32 8)))), (14, .int (nI (mSrc K (nb xs 8 8) (nb xs 16 8)))), (12, .long (lN (nb xs 32 8))), (10, .long (lN (nb xs 24 8))), (8, .long (lN (nb xs 16 8))), (6, .long (lN (nb xs 8 8))), (5, .int (nI (sqHL (xs.getD 7 0)))), (4, .int (nI (sqTF (pkT xs) (pkL xs)))), (3, .int (bI (hasPB xs))), (0, .ref (tw_ad G 8)), (1, .ref (tw_ad G 1)), (2, .ref (tw_ad G q))]) C N dX8_write_243 (i := 17) (by decide) rfl ?_
            refine tw_aload_n C dX8_write_245 13 rfl ?_
            refine tw_aload_n C dX8_write_246 12 rfl ?_
            refine tw_aload_n C dX8_write_247 12 rfl ?_
            refine tw_callS (As := [.ref (tw_ad G 1)]) (rest := [.ref (tw_ad G 1), .ref (tw_ad G q)]) C N (c_X5_headOf hG tw_row1 (xs := xs) ((tq_uR_ne _ _ hq1).trans hx)) mm_X5_headOf wd_373 rfl (by decide) rfl (Nat.le_of_ble_eq_true rfl) dX8_write_248 ?_
            rintro _ _ ⟨rfl, rfl⟩
            show TW G X (tw_uR S q ((sqHd K xs).take (tw_cap q))) [(17, .int (nI (((sqHd K xs).take (tw_cap q)).length))), (16, .int (nI ((16 * (ctxN K (mSrc K (nb xs 8 8) (nb xs 16 8)) (nb xs 8 8))) + (ctxN K (mGoal K (nb xs 24 8) (nb xs 32 8)) (nb xs 24 8))))), (15, .int (nI (mGoal K (nb xs 24 8) (nb xs 32 8)))), (14, .int (nI (mSrc K (nb xs 8 8) (nb xs 16 8)))), (12, .long (lN (nb xs 32 8))), (10, .long (lN (nb xs 24 8))), (8, .long (lN (nb xs 16 8))), (6, .long (lN (nb xs 8 8))), (5, .int (nI (sqHL (xs.getD 7 0)))), (4, .int (nI (sqTF (pkT xs) (pkL xs)))), (3, .int (bI (hasPB xs))), (0, .ref (tw_ad G 8)), (1, .ref (tw_ad G 1)), (2, .ref (tw_ad G q))] 251 [.int (nI (pkH xs)), .ref (tw_ad G 1), .ref (tw_ad G q)]
            refine tw_aload_n C dX8_write_251 12 rfl ?_
            refine tw_callV (As := []) (rest := [.int (nI (pkH xs)), .ref (tw_ad G 1), .ref (tw_ad G q)]) C N (e_X7_length hG tw_row1 (xs := xs) ((tq_uR_ne _ _ hq1).trans hx) ) mm_X7_length wd_372 rfl (hG 1 (by decide)) sh_1 rfl (by decide) rfl (Nat.le_of_ble_eq_true rfl) dX8_write_252 ?_
            rintro _ _ ⟨rfl, rfl⟩
            show TW G X (tw_uR S q ((sqHd K xs).take (tw_cap q))) [(17, .int (nI (((sqHd K xs).take (tw_cap q)).length))), (16, .int (nI ((16 * (ctxN K (mSrc K (nb xs 8 8) (nb xs 16 8)) (nb xs 8 8))) + (ctxN K (mGoal K (nb xs 24 8) (nb xs 32 8)) (nb xs 24 8))))), (15, .int (nI (mGoal K (nb xs 24 8) (nb xs 32 8)))), (14, .int (nI (mSrc K (nb xs 8 8) (nb xs 16 8)))), (12, .long (lN (nb xs 32 8))), (10, .long (lN (nb xs 24 8))), (8, .long (lN (nb xs 16 8))), (6, .long (lN (nb xs 8 8))), (5, .int (nI (sqHL (xs.getD 7 0)))), (4, .int (nI (sqTF (pkT xs) (pkL xs)))), (3, .int (bI (hasPB xs))), (0, .ref (tw_ad G 8)), (1, .ref (tw_ad G 1)), (2, .ref (tw_ad G q))] 255 [.int (nI xs.length), .int (nI (pkH xs)), .ref (tw_ad G 1), .ref (tw_ad G q)]
            have hphp : pkH xs ≤ 48 := by unfold pkH; split <;> omega
            refine tw_callV (As := [.ref (tw_ad G 1), .int (nI (pkH xs)), .int (nI xs.length)]) (rest := []) C N (e_X7_addAll hG hq (xs := (sqHd K xs).take (tw_cap q)) (tq_uR_same _ _ _) tw_row1 hq1 (ys := xs) ((tq_uR_ne _ _ hq1).trans hx) (a := pkH xs) (e := xs.length) (by omega) (by omega)) mm_X7_addAll wd_377 rfl (hG _ (tw_row_lt hq).2) (tw_row_sh hq) rfl (by decide) rfl (Nat.le_of_ble_eq_true rfl) dX8_write_255 ?_
            rintro _ _ rfl
            show TW G X (tw_uR (tw_uR S q ((sqHd K xs).take (tw_cap q))) q ((((sqHd K xs).take (tw_cap q)) ++ cutD xs (pkH xs) (xs.length - (pkH xs))).take (tw_cap q))) [(17, .int (nI (((sqHd K xs).take (tw_cap q)).length))), (16, .int (nI ((16 * (ctxN K (mSrc K (nb xs 8 8) (nb xs 16 8)) (nb xs 8 8))) + (ctxN K (mGoal K (nb xs 24 8) (nb xs 32 8)) (nb xs 24 8))))), (15, .int (nI (mGoal K (nb xs 24 8) (nb xs 32 8)))), (14, .int (nI (mSrc K (nb xs 8 8) (nb xs 16 8)))), (12, .long (lN (nb xs 32 8))), (10, .long (lN (nb xs 24 8))), (8, .long (lN (nb xs 16 8))), (6, .long (lN (nb xs 8 8))), (5, .int (nI (sqHL (xs.getD 7 0)))), (4, .int (nI (sqTF (pkT xs) (pkL xs)))), (3, .int (bI (hasPB xs))), (0, .ref (tw_ad G 8)), (1, .ref (tw_ad G 1)), (2, .ref (tw_ad G q))] 258 []
            refine TW.sS (S' := tw_uR S q ((sqHd K xs ++ cutD xs (pkH xs) (xs.length - (pkH xs))).take (tw_cap q))) (by rw [tw_uR_uR, tk_tk]) ?_
            refine tw_iload C dX8_write_258 0 rfl ?_
            exact tw_ireturn C Q dX8_write_260 rfl rfl rfl ⟨by rw [List.length_take, Nat.min_eq_right (by omega)], rfl⟩
          · exact absurd cb (by simp [hpb])
        · exact absurd cc (by omega)
      · exact absurd cc (by omega)
    · exact absurd cb (by simp [hpb])
  · skip
    refine tw_bipush C dX8_write_116 (v := nI 96) (by decide) ?_
    refine tw_iload C dX8_write_118 8 rfl ?_
    refine tw_iconst C dX8_write_120 (v := nI 3) (by decide) ?_
    refine tw_ishl C dX8_write_121 (v := nI ((sqTF (pkT xs) (pkL xs)) * 8)) (nI_shl _ 3 (by decide)) ?_
    refine tw_ior C dX8_write_122 (v := nI (96 ||| ((sqTF (pkT xs) (pkL xs)) * 8))) (nI_or _ _) ?_
    refine tw_iload_n C dX8_write_123 9 rfl ?_
    refine tb_if_eq C dX8_write_124 (tgt := 131) (by decide) (fun cb => ?_) (fun cb => ?_)
    · skip
      refine tw_iconst C dX8_write_131 (v := nI 0) (by decide) ?_
      refine tw_ior C dX8_write_132 (v := nI ((96 ||| ((sqTF (pkT xs) (pkL xs)) * 8)) ||| 0)) (nI_or _ _) ?_
      refine tw_iload C dX8_write_133 7 rfl ?_
      refine tw_ior C dX8_write_135 (v := nI (sqB1 (sqTF (pkT xs) (pkL xs)) (sqHL (xs.getD 7 0)) false)) (by rw [nI_or, (sqB1_or _ (sqTF_lt _ _) _ (sqHL_lt _)).2.1]) ?_
      refine tw_callV (As := [.int (nI (sqB1 (sqTF (pkT xs) (pkL xs)) (sqHL (xs.getD 7 0)) false))]) (rest := []) C N (e_X7_add hG hq (xs := (([] : List Nat)).take (tw_cap q)) (tq_uR_same _ _ _) (x := sqB1 (sqTF (pkT xs) (pkL xs)) (sqHL (xs.getD 7 0)) false)) mm_X7_add wd_357 rfl (hG _ (tw_row_lt hq).2) (tw_row_sh hq) rfl (by decide) rfl (Nat.le_of_ble_eq_true rfl) dX8_write_136 ?_
      rintro _ _ rfl
      show TW G X (tw_uR (tw_uR S q ((([] : List Nat)).take (tw_cap q))) q ((((([] : List Nat)).take (tw_cap q)) ++ [(sqB1 (sqTF (pkT xs) (pkL xs)) (sqHL (xs.getD 7 0)) false) % 256]).take (tw_cap q))) [(16, .int (nI ((16 * (ctxN K (mSrc K (nb xs 8 8) (nb xs 16 8)) (nb xs 8 8))) + (ctxN K (mGoal K (nb xs 24 8) (nb xs 32 8)) (nb xs 24 8))))), (15, .int (nI (mGoal K (nb xs 24 8) (nb xs 32 8)))), (14, .int (nI (mSrc K (nb xs 8 8) (nb xs 16 8)))), (12, .long (lN (nb xs 32 8))), (10, .long (lN (nb xs 24 8))), (8, .long (lN (nb xs 16 8))), (6, .long (lN (nb xs 8 8))), (5, .int (nI (sqHL (xs.getD 7 0)))), (4, .int (nI (sqTF (pkT xs) (pkL xs)))), (3, .int (bI (hasPB xs))), (0, .ref (tw_ad G 8)), (1, .ref (tw_ad G 1)), (2, .ref (tw_ad G q))] 139 []
      refine TW.sS (S' := tw_uR S q ((([] : List Nat) ++ [(sqB1 (sqTF (pkT xs) (pkL xs)) (sqHL (xs.getD 7 0)) false) % 256]).take (tw_cap q))) (by rw [tw_uR_uR, tk_tk]) ?_
      refine tw_aload_n C dX8_write_139 12 rfl ?_
      refine tw_iload C dX8_write_140 0 rfl ?_
      refine tn_if_eq C dX8_write_142 (tgt := 151) (by decide) (by omega) (fun cc => ?_) (fun cc => ?_)
      · skip
        refine tw_iconst C dX8_write_151 (v := nI 0) (by decide) ?_
        refine tw_iload C dX8_write_152 2 rfl ?_
        refine tw_iconst C dX8_write_154 (v := nI 4) (by decide) ?_
        refine tw_ishl C dX8_write_155 (v := nI ((mSrc K (nb xs 8 8) (nb xs 16 8)) * 16)) (nI_shl _ 4 (by decide)) ?_
        refine tw_ior C dX8_write_156 (v := nI (0 ||| ((mSrc K (nb xs 8 8) (nb xs 16 8)) * 16))) (nI_or _ _) ?_
        refine tw_iload C dX8_write_157 1 rfl ?_
        refine tw_ior C dX8_write_159 (v := nI (0 + (mSrc K (nb xs 8 8) (nb xs 16 8)) * 16 + mGoal K (nb xs 24 8) (nb xs 32 8))) (by rw [nI_or, (sqB2_or _ (by omega) _ (by omega)).2.1]) ?_
        refine tw_callV (As := [.int (nI (0 + (mSrc K (nb xs 8 8) (nb xs 16 8)) * 16 + mGoal K (nb xs 24 8) (nb xs 32 8)))]) (rest := []) C N (e_X7_add hG hq (xs := (([] : List Nat) ++ [(sqB1 (sqTF (pkT xs) (pkL xs)) (sqHL (xs.getD 7 0)) false) % 256]).take (tw_cap q)) (tq_uR_same _ _ _) (x := 0 + (mSrc K (nb xs 8 8) (nb xs 16 8)) * 16 + mGoal K (nb xs 24 8) (nb xs 32 8))) mm_X7_add wd_357 rfl (hG _ (tw_row_lt hq).2) (tw_row_sh hq) rfl (by decide) rfl (Nat.le_of_ble_eq_true rfl) dX8_write_160 ?_
        rintro _ _ rfl
        show TW G X (tw_uR (tw_uR S q ((([] : List Nat) ++ [(sqB1 (sqTF (pkT xs) (pkL xs)) (sqHL (xs.getD 7 0)) false) % 256]).take (tw_cap q))) q ((((([] : List Nat) ++ [(sqB1 (sqTF (pkT xs) (pkL xs)) (sqHL (xs.getD 7 0)) false) % 256]).take (tw_cap q)) ++ [(0 + (mSrc K (nb xs 8 8) (nb xs 16 8)) * 16 + mGoal K (nb xs 24 8) (nb xs 32 8)) % 256]).take (tw_cap q))) [(16, .int (nI ((16 * (ctxN K (mSrc K (nb xs 8 8) (nb xs 16 8)) (nb xs 8 8))) + (ctxN K (mGoal K (nb xs 24 8) (nb xs 32 8)) (nb xs 24 8))))), (15, .int (nI (mGoal K (nb xs 24 8) (nb xs 32 8)))), (14, .int (nI (mSrc K (nb xs 8 8) (nb xs 16 8)))), (12, .long (lN (nb xs 32 8))), (10, .long (lN (nb xs 24 8))), (8, .long (lN (nb xs 16 8))), (6, .long (lN (nb xs 8 8))), (5, .int (nI (sqHL (xs.getD 7 0)))), (4, .int (nI (sqTF (pkT xs) (pkL xs)))), (3, .int (bI (hasPB xs))), (0, .ref (tw_ad G 8)), (1, .ref (tw_ad G 1)), (2, .ref (tw_ad G q))] 163 []
        refine TW.sS (S' := tw_uR S q ((([] : List Nat) ++ [(sqB1 (sqTF (pkT xs) (pkL xs)) (sqHL (xs.getD 7 0)) false) % 256] ++ [(0 + (mSrc K (nb xs 8 8) (nb xs 16 8)) * 16 + mGoal K (nb xs 24 8) (nb xs 32 8)) % 256]).take (tw_cap q))) (by rw [tw_uR_uR, tk_tk]) ?_
        refine tw_iload C dX8_write_163 0 rfl ?_
        refine tn_if_eq C dX8_write_165 (tgt := 174) (by decide) (by omega) (fun cc => ?_) (fun cc => ?_)
        · skip
          refine tw_aload_n C dX8_write_174 11 rfl ?_
          refine tw_iload C dX8_write_175 8 rfl ?_
          refine tw_aload_n C dX8_write_177 12 rfl ?_
          refine tw_callS (As := [.ref (tw_ad G 1), .int (nI (sqTF (pkT xs) (pkL xs))), .ref (tw_ad G q)]) (rest := []) C N (c_X8_writeTraffic hG hq hq1 (xs := xs) (ys := (([] : List Nat) ++ [(sqB1 (sqTF (pkT xs) (pkL xs)) (sqHL (xs.getD 7 0)) false) % 256] ++ [(0 + (mSrc K (nb xs 8 8) (nb xs 16 8)) * 16 + mGoal K (nb xs 24 8) (nb xs 32 8)) % 256]).take (tw_cap q)) ((tq_uR_ne _ _ hq1).trans hx) (tq_uR_same _ _ _) (tf := sqTF (pkT xs) (pkL xs)) (sqTF_lt _ _) sqTF_1) mm_X8_writeTraffic wd_358 rfl (by decide) rfl (Nat.le_of_ble_eq_true rfl) dX8_write_178 ?_
          rintro _ _ rfl
          show TW G X (tw_uR (tw_uR S q ((([] : List Nat) ++ [(sqB1 (sqTF (pkT xs) (pkL xs)) (sqHL (xs.getD 7 0)) false) % 256] ++ [(0 + (mSrc K (nb xs 8 8) (nb xs 16 8)) * 16 + mGoal K (nb xs 24 8) (nb xs 32 8)) % 256]).take (tw_cap q))) q ((((([] : List Nat) ++ [(sqB1 (sqTF (pkT xs) (pkL xs)) (sqHL (xs.getD 7 0)) false) % 256] ++ [(0 + (mSrc K (nb xs 8 8) (nb xs 16 8)) * 16 + mGoal K (nb xs 24 8) (nb xs 32 8)) % 256]).take (tw_cap q)) ++ sqTr (sqTF (pkT xs) (pkL xs)) (pkT xs) (pkL xs)).take (tw_cap q))) [(16, .int (nI ((16 * (ctxN K (mSrc K (nb xs 8 8) (nb xs 16 8)) (nb xs 8 8))) + (ctxN K (mGoal K (nb xs 24 8) (nb xs 32 8)) (nb xs 24 8))))), (15, .int (nI (mGoal K (nb xs 24 8) (nb xs 32 8)))), (14, .int (nI (mSrc K (nb xs 8 8) (nb xs 16 8)))), (12, .long (lN (nb xs 32 8))), (10, .long (lN (nb xs 24 8))), (8, .long (lN (nb xs 16 8))), (6, .long (lN (nb xs 8 8))), (5, .int (nI (sqHL (xs.getD 7 0)))), (4, .int (nI (sqTF (pkT xs) (pkL xs)))), (3, .int (bI (hasPB xs))), (0, .ref (tw_ad G 8)), (1, .ref (tw_ad G 1)), (2, .ref (tw_ad G q))] 181 []
          refine TW.sS (S' := tw_uR S q ((([] : List Nat) ++ [(sqB1 (sqTF (pkT xs) (pkL xs)) (sqHL (xs.getD 7 0)) false) % 256] ++ [(0 + (mSrc K (nb xs 8 8) (nb xs 16 8)) * 16 + mGoal K (nb xs 24 8) (nb xs 32 8)) % 256] ++ sqTr (sqTF (pkT xs) (pkL xs)) (pkT xs) (pkL xs)).take (tw_cap q))) (by rw [tw_uR_uR, tk_tk]) ?_
          refine tw_iload_n C dX8_write_181 9 rfl ?_
          refine tb_if_ne C dX8_write_182 (tgt := 195) (by decide) (fun cb => ?_) (fun cb => ?_)
          · exact absurd cb (by simp [hpb])
          refine tw_aload_n C dX8_write_185 12 rfl ?_
          refine tw_aload_n C dX8_write_186 11 rfl ?_
          refine tw_bipush C dX8_write_187 (v := nI 6) (by decide) ?_
          refine tw_callV (As := [.int (nI 6)]) (rest := [.ref (tw_ad G q)]) C N (e_X7_at hG tw_row1 (xs := xs) ((tq_uR_ne _ _ hq1).trans hx) (i := 6) (by omega)) mm_X7_at wd_314 rfl (hG 1 (by decide)) sh_1 rfl (by decide) rfl (Nat.le_of_ble_eq_true rfl) dX8_write_189 ?_
          rintro _ _ ⟨rfl, rfl⟩
          show TW G X (tw_uR S q ((([] : List Nat) ++ [(sqB1 (sqTF (pkT xs) (pkL xs)) (sqHL (xs.getD 7 0)) false) % 256] ++ [(0 + (mSrc K (nb xs 8 8) (nb xs 16 8)) * 16 + mGoal K (nb xs 24 8) (nb xs 32 8)) % 256] ++ sqTr (sqTF (pkT xs) (pkL xs)) (pkT xs) (pkL xs)).take (tw_cap q))) [(16, .int (nI ((16 * (ctxN K (mSrc K (nb xs 8 8) (nb xs 16 8)) (nb xs 8 8))) + (ctxN K (mGoal K (nb xs 24 8) (nb xs 32 8)) (nb xs 24 8))))), (15, .int (nI (mGoal K (nb xs 24 8) (nb xs 32 8)))), (14, .int (nI (mSrc K (nb xs 8 8) (nb xs 16 8)))), (12, .long (lN (nb xs 32 8))), (10, .long (lN (nb xs 24 8))), (8, .long (lN (nb xs 16 8))), (6, .long (lN (nb xs 8 8))), (5, .int (nI (sqHL (xs.getD 7 0)))), (4, .int (nI (sqTF (pkT xs) (pkL xs)))), (3, .int (bI (hasPB xs))), (0, .ref (tw_ad G 8)), (1, .ref (tw_ad G 1)), (2, .ref (tw_ad G q))] 192 [.int (nI (xs.getD 6 0)), .ref (tw_ad G q)]
          refine tw_callV (As := [.int (nI (xs.getD 6 0))]) (rest := []) C N (e_X7_add hG hq (xs := (([] : List Nat) ++ [(sqB1 (sqTF (pkT xs) (pkL xs)) (sqHL (xs.getD 7 0)) false) % 256] ++ [(0 + (mSrc K (nb xs 8 8) (nb xs 16 8)) * 16 + mGoal K (nb xs 24 8) (nb xs 32 8)) % 256] ++ sqTr (sqTF (pkT xs) (pkL xs)) (pkT xs) (pkL xs)).take (tw_cap q)) (tq_uR_same _ _ _) (x := xs.getD 6 0)) mm_X7_add wd_357 rfl (hG _ (tw_row_lt hq).2) (tw_row_sh hq) rfl (by decide) rfl (Nat.le_of_ble_eq_true rfl) dX8_write_192 ?_
          rintro _ _ rfl
          show TW G X (tw_uR (tw_uR S q ((([] : List Nat) ++ [(sqB1 (sqTF (pkT xs) (pkL xs)) (sqHL (xs.getD 7 0)) false) % 256] ++ [(0 + (mSrc K (nb xs 8 8) (nb xs 16 8)) * 16 + mGoal K (nb xs 24 8) (nb xs 32 8)) % 256] ++ sqTr (sqTF (pkT xs) (pkL xs)) (pkT xs) (pkL xs)).take (tw_cap q))) q ((((([] : List Nat) ++ [(sqB1 (sqTF (pkT xs) (pkL xs)) (sqHL (xs.getD 7 0)) false) % 256] ++ [(0 + (mSrc K (nb xs 8 8) (nb xs 16 8)) * 16 + mGoal K (nb xs 24 8) (nb xs 32 8)) % 256] ++ sqTr (sqTF (pkT xs) (pkL xs)) (pkT xs) (pkL xs)).take (tw_cap q)) ++ [(xs.getD 6 0) % 256]).take (tw_cap q))) [(16, .int (nI ((16 * (ctxN K (mSrc K (nb xs 8 8) (nb xs 16 8)) (nb xs 8 8))) + (ctxN K (mGoal K (nb xs 24 8) (nb xs 32 8)) (nb xs 24 8))))), (15, .int (nI (mGoal K (nb xs 24 8) (nb xs 32 8)))), (14, .int (nI (mSrc K (nb xs 8 8) (nb xs 16 8)))), (12, .long (lN (nb xs 32 8))), (10, .long (lN (nb xs 24 8))), (8, .long (lN (nb xs 16 8))), (6, .long (lN (nb xs 8 8))), (5, .int (nI (sqHL (xs.getD 7 0)))), (4, .int (nI (sqTF (pkT xs) (pkL xs)))), (3, .int (bI (hasPB xs))), (0, .ref (tw_ad G 8)), (1, .ref (tw_ad G 1)), (2, .ref (tw_ad G q))] 195 []
          refine TW.sS (S' := tw_uR S q ((([] : List Nat) ++ [(sqB1 (sqTF (pkT xs) (pkL xs)) (sqHL (xs.getD 7 0)) false) % 256] ++ [(0 + (mSrc K (nb xs 8 8) (nb xs 16 8)) * 16 + mGoal K (nb xs 24 8) (nb xs 32 8)) % 256] ++ sqTr (sqTF (pkT xs) (pkL xs)) (pkT xs) (pkL xs) ++ [(xs.getD 6 0) % 256]).take (tw_cap q))) (by rw [tw_uR_uR, tk_tk]) ?_
          refine tw_iload C dX8_write_195 7 rfl ?_
          refine tn_if_ne C dX8_write_197 (tgt := 210) (by decide) (by omega) (fun ch => ?_) (fun ch => ?_)
          · skip
            refine tw_iload C dX8_write_210 2 rfl ?_
            refine tw_lload C dX8_write_212 6 rfl ?_
            refine tw_lload C dX8_write_214 5 rfl ?_
            refine tw_aload_n C dX8_write_216 12 rfl ?_
            refine tw_callS (As := [.int (nI (mSrc K (nb xs 8 8) (nb xs 16 8))), .long (lN (nb xs 8 8)), .long (lN (nb xs 16 8)), .ref (tw_ad G q)]) (rest := []) C N (c_X8_writeAddress hG hq (ys := (([] : List Nat) ++ [(sqB1 (sqTF (pkT xs) (pkL xs)) (sqHL (xs.getD 7 0)) false) % 256] ++ [(0 + (mSrc K (nb xs 8 8) (nb xs 16 8)) * 16 + mGoal K (nb xs 24 8) (nb xs 32 8)) % 256] ++ sqTr (sqTF (pkT xs) (pkL xs)) (pkT xs) (pkL xs) ++ [(xs.getD 6 0) % 256]).take (tw_cap q)) (tq_uR_same _ _ _) (m := mSrc K (nb xs 8 8) (nb xs 16 8)) (f := nb xs 8 8) (l := nb xs 16 8) (by omega) (by omega) (by omega)) mm_X8_writeAddress wd_362 rfl (by decide) rfl (Nat.le_of_ble_eq_true rfl) dX8_write_217 ?_
            rintro _ _ rfl
            show TW G X (tw_uR (tw_uR S q ((([] : List Nat) ++ [(sqB1 (sqTF (pkT xs) (pkL xs)) (sqHL (xs.getD 7 0)) false) % 256] ++ [(0 + (mSrc K (nb xs 8 8) (nb xs 16 8)) * 16 + mGoal K (nb xs 24 8) (nb xs 32 8)) % 256] ++ sqTr (sqTF (pkT xs) (pkL xs)) (pkT xs) (pkL xs) ++ [(xs.getD 6 0) % 256]).take (tw_cap q))) q ((((([] : List Nat) ++ [(sqB1 (sqTF (pkT xs) (pkL xs)) (sqHL (xs.getD 7 0)) false) % 256] ++ [(0 + (mSrc K (nb xs 8 8) (nb xs 16 8)) * 16 + mGoal K (nb xs 24 8) (nb xs 32 8)) % 256] ++ sqTr (sqTF (pkT xs) (pkL xs)) (pkT xs) (pkL xs) ++ [(xs.getD 6 0) % 256]).take (tw_cap q)) ++ sqAd (mSrc K (nb xs 8 8) (nb xs 16 8)) (nb xs 8 8) (nb xs 16 8)).take (tw_cap q))) [(16, .int (nI ((16 * (ctxN K (mSrc K (nb xs 8 8) (nb xs 16 8)) (nb xs 8 8))) + (ctxN K (mGoal K (nb xs 24 8) (nb xs 32 8)) (nb xs 24 8))))), (15, .int (nI (mGoal K (nb xs 24 8) (nb xs 32 8)))), (14, .int (nI (mSrc K (nb xs 8 8) (nb xs 16 8)))), (12, .long (lN (nb xs 32 8))), (10, .long (lN (nb xs 24 8))), (8, .long (lN (nb xs 16 8))), (6, .long (lN (nb xs 8 8))), (5, .int (nI (sqHL (xs.getD 7 0)))), (4, .int (nI (sqTF (pkT xs) (pkL xs)))), (3, .int (bI (hasPB xs))), (0, .ref (tw_ad G 8)), (1, .ref (tw_ad G 1)), (2, .ref (tw_ad G q))] 220 []
            refine TW.sS (S' := tw_uR S q ((([] : List Nat) ++ [(sqB1 (sqTF (pkT xs) (pkL xs)) (sqHL (xs.getD 7 0)) false) % 256] ++ [(0 + (mSrc K (nb xs 8 8) (nb xs 16 8)) * 16 + mGoal K (nb xs 24 8) (nb xs 32 8)) % 256] ++ sqTr (sqTF (pkT xs) (pkL xs)) (pkT xs) (pkL xs) ++ [(xs.getD 6 0) % 256] ++ sqAd (mSrc K (nb xs 8 8) (nb xs 16 8)) (nb xs 8 8) (nb xs 16 8)).take (tw_cap q))) (by rw [tw_uR_uR, tk_tk]) ?_
            refine tw_iload C dX8_write_220 1 rfl ?_
            refine tw_lload C dX8_write_222 4 rfl ?_
            refine tw_lload C dX8_write_224 3 rfl ?_
            refine tw_aload_n C dX8_write_226 12 rfl ?_
            refine tw_callS (As := [.int (nI (mGoal K (nb xs 24 8) (nb xs 32 8))), .long (lN (nb xs 24 8)), .long (lN (nb xs 32 8)), .ref (tw_ad G q)]) (rest := []) C N (c_X8_writeAddress hG hq (ys := (([] : List Nat) ++ [(sqB1 (sqTF (pkT xs) (pkL xs)) (sqHL (xs.getD 7 0)) false) % 256] ++ [(0 + (mSrc K (nb xs 8 8) (nb xs 16 8)) * 16 + mGoal K (nb xs 24 8) (nb xs 32 8)) % 256] ++ sqTr (sqTF (pkT xs) (pkL xs)) (pkT xs) (pkL xs) ++ [(xs.getD 6 0) % 256] ++ sqAd (mSrc K (nb xs 8 8) (nb xs 16 8)) (nb xs 8 8) (nb xs 16 8)).take (tw_cap q)) (tq_uR_same _ _ _) (m := mGoal K (nb xs 24 8) (nb xs 32 8)) (f := nb xs 24 8) (l := nb xs 32 8) (by omega) (by omega) (by omega)) mm_X8_writeAddress wd_362 rfl (by decide) rfl (Nat.le_of_ble_eq_true rfl) dX8_write_227 ?_
            rintro _ _ rfl
            show TW G X (tw_uR (tw_uR S q ((([] : List Nat) ++ [(sqB1 (sqTF (pkT xs) (pkL xs)) (sqHL (xs.getD 7 0)) false) % 256] ++ [(0 + (mSrc K (nb xs 8 8) (nb xs 16 8)) * 16 + mGoal K (nb xs 24 8) (nb xs 32 8)) % 256] ++ sqTr (sqTF (pkT xs) (pkL xs)) (pkT xs) (pkL xs) ++ [(xs.getD 6 0) % 256] ++ sqAd (mSrc K (nb xs 8 8) (nb xs 16 8)) (nb xs 8 8) (nb xs 16 8)).take (tw_cap q))) q ((((([] : List Nat) ++ [(sqB1 (sqTF (pkT xs) (pkL xs)) (sqHL (xs.getD 7 0)) false) % 256] ++ [(0 + (mSrc K (nb xs 8 8) (nb xs 16 8)) * 16 + mGoal K (nb xs 24 8) (nb xs 32 8)) % 256] ++ sqTr (sqTF (pkT xs) (pkL xs)) (pkT xs) (pkL xs) ++ [(xs.getD 6 0) % 256] ++ sqAd (mSrc K (nb xs 8 8) (nb xs 16 8)) (nb xs 8 8) (nb xs 16 8)).take (tw_cap q)) ++ sqAd (mGoal K (nb xs 24 8) (nb xs 32 8)) (nb xs 24 8) (nb xs 32 8)).take (tw_cap q))) [(16, .int (nI ((16 * (ctxN K (mSrc K (nb xs 8 8) (nb xs 16 8)) (nb xs 8 8))) + (ctxN K (mGoal K (nb xs 24 8) (nb xs 32 8)) (nb xs 24 8))))), (15, .int (nI (mGoal K (nb xs 24 8) (nb xs 32 8)))), (14, .int (nI (mSrc K (nb xs 8 8) (nb xs 16 8)))), (12, .long (lN (nb xs 32 8))), (10, .long (lN (nb xs 24 8))), (8, .long (lN (nb xs 16 8))), (6, .long (lN (nb xs 8 8))), (5, .int (nI (sqHL (xs.getD 7 0)))), (4, .int (nI (sqTF (pkT xs) (pkL xs)))), (3, .int (bI (hasPB xs))), (0, .ref (tw_ad G 8)), (1, .ref (tw_ad G 1)), (2, .ref (tw_ad G q))] 230 []
            refine TW.sS (S' := tw_uR S q ((([] : List Nat) ++ [(sqB1 (sqTF (pkT xs) (pkL xs)) (sqHL (xs.getD 7 0)) false) % 256] ++ [(0 + (mSrc K (nb xs 8 8) (nb xs 16 8)) * 16 + mGoal K (nb xs 24 8) (nb xs 32 8)) % 256] ++ sqTr (sqTF (pkT xs) (pkL xs)) (pkT xs) (pkL xs) ++ [(xs.getD 6 0) % 256] ++ sqAd (mSrc K (nb xs 8 8) (nb xs 16 8)) (nb xs 8 8) (nb xs 16 8) ++ sqAd (mGoal K (nb xs 24 8) (nb xs 32 8)) (nb xs 24 8) (nb xs 32 8)).take (tw_cap q))) (by rw [tw_uR_uR, tk_tk]) ?_
            refine tw_iload_n C dX8_write_230 9 rfl ?_
            refine tb_if_eq C dX8_write_231 (tgt := 239) (by decide) (fun cb => ?_) (fun cb => ?_)
            · skip
              refine TW.sS (S' := tw_uR S q ((sqHd K xs).take (tw_cap q))) (by congr 2; simp only [sqHd, sqB2, hpb, if_pos hc0, if_neg (Nat.pos_iff_ne_zero.mp hl0), hm1, hm2, hm2z, hm3, hm6, hm7, if_true, if_false, Bool.false_eq_true, List.nil_append, List.append_nil, List.append_assoc]) ?_
              refine tw_aload_n C dX8_write_239 12 rfl ?_
              refine tw_callV (As := []) (rest := []) C N (e_X7_length hG hq (xs := (sqHd K xs).take (tw_cap q)) (tq_uR_same _ _ _) ) mm_X7_length wd_372 rfl (hG _ (tw_row_lt hq).2) (tw_row_sh hq) rfl (by decide) rfl (Nat.le_of_ble_eq_true rfl) dX8_write_240 ?_
              rintro _ _ ⟨rfl, rfl⟩
              show TW G X (tw_uR S q ((sqHd K xs).take (tw_cap q))) [(16, .int (nI ((16 * (ctxN K (mSrc K (nb xs 8 8) (nb xs 16 8)) (nb xs 8 8))) + (ctxN K (mGoal K (nb xs 24 8) (nb xs 32 8)) (nb xs 24 8))))), (15, .int (nI (mGoal K (nb xs 24 8) (nb xs 32 8)))), (14, .int (nI (mSrc K (nb xs 8 8) (nb xs 16 8)))), (12, .long (lN (nb xs 32 8))), (10, .long (lN (nb xs 24 8))), (8, .long (lN (nb xs 16 8))), (6, .long (lN (nb xs 8 8))), (5, .int (nI (sqHL (xs.getD 7 0)))), (4, .int (nI (sqTF (pkT xs) (pkL xs)))), (3, .int (bI (hasPB xs))), (0, .ref (tw_ad G 8)), (1, .ref (tw_ad G 1)), (2, .ref (tw_ad G q))] 243 [.int (nI (((sqHd K xs).take (tw_cap q)).length))]
              refine tw_istore (L' := [(17, .int (nI (((sqHd K xs).take (tw_cap q)).length))), (16, .int (nI ((16 * (ctxN K (mSrc K (nb xs 8 8) (nb xs 16 8)) (nb xs 8 8))) + (ctxN K (mGoal K (nb xs 24 8) (nb xs 32 8)) (nb xs 24 8))))), (15, .int (nI (mGoal K (nb xs 24 8) (nb xs 32 8)))), (14, .int (nI (mSrc K (nb xs 8 8) (nb xs 16 8)))), (12, .long (lN (nb xs 32 8))), (10, .long (lN (nb xs 24 8))), (8, .long (lN (nb xs 16 8))), (6, .long (lN (nb xs 8 8))), (5, .int (nI (sqHL (xs.getD 7 0)))), (4, .int (nI (sqTF (pkT xs) (pkL xs)))), (3, .int (bI (hasPB xs))), (0, .ref (tw_ad G 8)), (1, .ref (tw_ad G 1)), (2, .ref (tw_ad G q))]) C N dX8_write_243 (i := 17) (by decide) rfl ?_
              refine tw_aload_n C dX8_write_245 13 rfl ?_
              refine tw_aload_n C dX8_write_246 12 rfl ?_
              refine tw_aload_n C dX8_write_247 12 rfl ?_
              refine tw_callS (As := [.ref (tw_ad G 1)]) (rest := [.ref (tw_ad G 1), .ref (tw_ad G q)]) C N (c_X5_headOf hG tw_row1 (xs := xs) ((tq_uR_ne _ _ hq1).trans hx)) mm_X5_headOf wd_373 rfl (by decide) rfl (Nat.le_of_ble_eq_true rfl) dX8_write_248 ?_
              rintro _ _ ⟨rfl, rfl⟩
              show TW G X (tw_uR S q ((sqHd K xs).take (tw_cap q))) [(17, .int (nI (((sqHd K xs).take (tw_cap q)).length))), (16, .int (nI ((16 * (ctxN K (mSrc K (nb xs 8 8) (nb xs 16 8)) (nb xs 8 8))) + (ctxN K (mGoal K (nb xs 24 8) (nb xs 32 8)) (nb xs 24 8))))), (15, .int (nI (mGoal K (nb xs 24 8) (nb xs 32 8)))), (14, .int (nI (mSrc K (nb xs 8 8) (nb xs 16 8)))), (12, .long (lN (nb xs 32 8))), (10, .long (lN (nb xs 24 8))), (8, .long (lN (nb xs 16 8))), (6, .long (lN (nb xs 8 8))), (5, .int (nI (sqHL (xs.getD 7 0)))), (4, .int (nI (sqTF (pkT xs) (pkL xs)))), (3, .int (bI (hasPB xs))), (0, .ref (tw_ad G 8)), (1, .ref (tw_ad G 1)), (2, .ref (tw_ad G q))] 251 [.int (nI (pkH xs)), .ref (tw_ad G 1), .ref (tw_ad G q)]
              refine tw_aload_n C dX8_write_251 12 rfl ?_
              refine tw_callV (As := []) (rest := [.int (nI (pkH xs)), .ref (tw_ad G 1), .ref (tw_ad G q)]) C N (e_X7_length hG tw_row1 (xs := xs) ((tq_uR_ne _ _ hq1).trans hx) ) mm_X7_length wd_372 rfl (hG 1 (by decide)) sh_1 rfl (by decide) rfl (Nat.le_of_ble_eq_true rfl) dX8_write_252 ?_
              rintro _ _ ⟨rfl, rfl⟩
              show TW G X (tw_uR S q ((sqHd K xs).take (tw_cap q))) [(17, .int (nI (((sqHd K xs).take (tw_cap q)).length))), (16, .int (nI ((16 * (ctxN K (mSrc K (nb xs 8 8) (nb xs 16 8)) (nb xs 8 8))) + (ctxN K (mGoal K (nb xs 24 8) (nb xs 32 8)) (nb xs 24 8))))), (15, .int (nI (mGoal K (nb xs 24 8) (nb xs 32 8)))), (14, .int (nI (mSrc K (nb xs 8 8) (nb xs 16 8)))), (12, .long (lN (nb xs 32 8))), (10, .long (lN (nb xs 24 8))), (8, .long (lN (nb xs 16 8))), (6, .long (lN (nb xs 8 8))), (5, .int (nI (sqHL (xs.getD 7 0)))), (4, .int (nI (sqTF (pkT xs) (pkL xs)))), (3, .int (bI (hasPB xs))), (0, .ref (tw_ad G 8)), (1, .ref (tw_ad G 1)), (2, .ref (tw_ad G q))] 255 [.int (nI xs.length), .int (nI (pkH xs)), .ref (tw_ad G 1), .ref (tw_ad G q)]
              have hphp : pkH xs ≤ 48 := by unfold pkH; split <;> omega
              refine tw_callV (As := [.ref (tw_ad G 1), .int (nI (pkH xs)), .int (nI xs.length)]) (rest := []) C N (e_X7_addAll hG hq (xs := (sqHd K xs).take (tw_cap q)) (tq_uR_same _ _ _) tw_row1 hq1 (ys := xs) ((tq_uR_ne _ _ hq1).trans hx) (a := pkH xs) (e := xs.length) (by omega) (by omega)) mm_X7_addAll wd_377 rfl (hG _ (tw_row_lt hq).2) (tw_row_sh hq) rfl (by decide) rfl (Nat.le_of_ble_eq_true rfl) dX8_write_255 ?_
              rintro _ _ rfl
              show TW G X (tw_uR (tw_uR S q ((sqHd K xs).take (tw_cap q))) q ((((sqHd K xs).take (tw_cap q)) ++ cutD xs (pkH xs) (xs.length - (pkH xs))).take (tw_cap q))) [(17, .int (nI (((sqHd K xs).take (tw_cap q)).length))), (16, .int (nI ((16 * (ctxN K (mSrc K (nb xs 8 8) (nb xs 16 8)) (nb xs 8 8))) + (ctxN K (mGoal K (nb xs 24 8) (nb xs 32 8)) (nb xs 24 8))))), (15, .int (nI (mGoal K (nb xs 24 8) (nb xs 32 8)))), (14, .int (nI (mSrc K (nb xs 8 8) (nb xs 16 8)))), (12, .long (lN (nb xs 32 8))), (10, .long (lN (nb xs 24 8))), (8, .long (lN (nb xs 16 8))), (6, .long (lN (nb xs 8 8))), (5, .int (nI (sqHL (xs.getD 7 0)))), (4, .int (nI (sqTF (pkT xs) (pkL xs)))), (3, .int (bI (hasPB xs))), (0, .ref (tw_ad G 8)), (1, .ref (tw_ad G 1)), (2, .ref (tw_ad G q))] 258 []
              refine TW.sS (S' := tw_uR S q ((sqHd K xs ++ cutD xs (pkH xs) (xs.length - (pkH xs))).take (tw_cap q))) (by rw [tw_uR_uR, tk_tk]) ?_
              refine tw_iload C dX8_write_258 0 rfl ?_
              exact tw_ireturn C Q dX8_write_260 rfl rfl rfl ⟨by rw [List.length_take, Nat.min_eq_right (by omega)], rfl⟩
            · exact absurd cb (by simp [hpb])
          · exact absurd ch (by omega)
        · exact absurd cc (by omega)
      · exact absurd cc (by omega)
    · exact absurd cb (by simp [hpb])
  · skip
    refine tw_bipush C dX8_write_116 (v := nI 96) (by decide) ?_
    refine tw_iload C dX8_write_118 8 rfl ?_
    refine tw_iconst C dX8_write_120 (v := nI 3) (by decide) ?_
    refine tw_ishl C dX8_write_121 (v := nI ((sqTF (pkT xs) (pkL xs)) * 8)) (nI_shl _ 3 (by decide)) ?_
    refine tw_ior C dX8_write_122 (v := nI (96 ||| ((sqTF (pkT xs) (pkL xs)) * 8))) (nI_or _ _) ?_
    refine tw_iload_n C dX8_write_123 9 rfl ?_
    refine tb_if_eq C dX8_write_124 (tgt := 131) (by decide) (fun cb => ?_) (fun cb => ?_)
    · skip
      refine tw_iconst C dX8_write_131 (v := nI 0) (by decide) ?_
      refine tw_ior C dX8_write_132 (v := nI ((96 ||| ((sqTF (pkT xs) (pkL xs)) * 8)) ||| 0)) (nI_or _ _) ?_
      refine tw_iload C dX8_write_133 7 rfl ?_
      refine tw_ior C dX8_write_135 (v := nI (sqB1 (sqTF (pkT xs) (pkL xs)) (sqHL (xs.getD 7 0)) false)) (by rw [nI_or, (sqB1_or _ (sqTF_lt _ _) _ (sqHL_lt _)).2.1]) ?_
      refine tw_callV (As := [.int (nI (sqB1 (sqTF (pkT xs) (pkL xs)) (sqHL (xs.getD 7 0)) false))]) (rest := []) C N (e_X7_add hG hq (xs := (([] : List Nat)).take (tw_cap q)) (tq_uR_same _ _ _) (x := sqB1 (sqTF (pkT xs) (pkL xs)) (sqHL (xs.getD 7 0)) false)) mm_X7_add wd_357 rfl (hG _ (tw_row_lt hq).2) (tw_row_sh hq) rfl (by decide) rfl (Nat.le_of_ble_eq_true rfl) dX8_write_136 ?_
      rintro _ _ rfl
      show TW G X (tw_uR (tw_uR S q ((([] : List Nat)).take (tw_cap q))) q ((((([] : List Nat)).take (tw_cap q)) ++ [(sqB1 (sqTF (pkT xs) (pkL xs)) (sqHL (xs.getD 7 0)) false) % 256]).take (tw_cap q))) [(16, .int (nI ((16 * (ctxN K (mSrc K (nb xs 8 8) (nb xs 16 8)) (nb xs 8 8))) + (ctxN K (mGoal K (nb xs 24 8) (nb xs 32 8)) (nb xs 24 8))))), (15, .int (nI (mGoal K (nb xs 24 8) (nb xs 32 8)))), (14, .int (nI (mSrc K (nb xs 8 8) (nb xs 16 8)))), (12, .long (lN (nb xs 32 8))), (10, .long (lN (nb xs 24 8))), (8, .long (lN (nb xs 16 8))), (6, .long (lN (nb xs 8 8))), (5, .int (nI (sqHL (xs.getD 7 0)))), (4, .int (nI (sqTF (pkT xs) (pkL xs)))), (3, .int (bI (hasPB xs))), (0, .ref (tw_ad G 8)), (1, .ref (tw_ad G 1)), (2, .ref (tw_ad G q))] 139 []
      refine TW.sS (S' := tw_uR S q ((([] : List Nat) ++ [(sqB1 (sqTF (pkT xs) (pkL xs)) (sqHL (xs.getD 7 0)) false) % 256]).take (tw_cap q))) (by rw [tw_uR_uR, tk_tk]) ?_
      refine tw_aload_n C dX8_write_139 12 rfl ?_
      refine tw_iload C dX8_write_140 0 rfl ?_
      refine tn_if_eq C dX8_write_142 (tgt := 151) (by decide) (by omega) (fun cc => ?_) (fun cc => ?_)
      · exact absurd cc (by omega)
      refine tw_sipush C dX8_write_145 (v := nI 128) (by decide) ?_
      refine tw_goto C dX8_write_148 (tgt := 152) (by decide) ?_
      refine tw_iload C dX8_write_152 2 rfl ?_
      refine tw_iconst C dX8_write_154 (v := nI 4) (by decide) ?_
      refine tw_ishl C dX8_write_155 (v := nI ((mSrc K (nb xs 8 8) (nb xs 16 8)) * 16)) (nI_shl _ 4 (by decide)) ?_
      refine tw_ior C dX8_write_156 (v := nI (128 ||| ((mSrc K (nb xs 8 8) (nb xs 16 8)) * 16))) (nI_or _ _) ?_
      refine tw_iload C dX8_write_157 1 rfl ?_
      refine tw_ior C dX8_write_159 (v := nI (128 + (mSrc K (nb xs 8 8) (nb xs 16 8)) * 16 + mGoal K (nb xs 24 8) (nb xs 32 8))) (by rw [nI_or, (sqB2_or _ (by omega) _ (by omega)).1]) ?_
      refine tw_callV (As := [.int (nI (128 + (mSrc K (nb xs 8 8) (nb xs 16 8)) * 16 + mGoal K (nb xs 24 8) (nb xs 32 8)))]) (rest := []) C N (e_X7_add hG hq (xs := (([] : List Nat) ++ [(sqB1 (sqTF (pkT xs) (pkL xs)) (sqHL (xs.getD 7 0)) false) % 256]).take (tw_cap q)) (tq_uR_same _ _ _) (x := 128 + (mSrc K (nb xs 8 8) (nb xs 16 8)) * 16 + mGoal K (nb xs 24 8) (nb xs 32 8))) mm_X7_add wd_357 rfl (hG _ (tw_row_lt hq).2) (tw_row_sh hq) rfl (by decide) rfl (Nat.le_of_ble_eq_true rfl) dX8_write_160 ?_
      rintro _ _ rfl
      show TW G X (tw_uR (tw_uR S q ((([] : List Nat) ++ [(sqB1 (sqTF (pkT xs) (pkL xs)) (sqHL (xs.getD 7 0)) false) % 256]).take (tw_cap q))) q ((((([] : List Nat) ++ [(sqB1 (sqTF (pkT xs) (pkL xs)) (sqHL (xs.getD 7 0)) false) % 256]).take (tw_cap q)) ++ [(128 + (mSrc K (nb xs 8 8) (nb xs 16 8)) * 16 + mGoal K (nb xs 24 8) (nb xs 32 8)) % 256]).take (tw_cap q))) [(16, .int (nI ((16 * (ctxN K (mSrc K (nb xs 8 8) (nb xs 16 8)) (nb xs 8 8))) + (ctxN K (mGoal K (nb xs 24 8) (nb xs 32 8)) (nb xs 24 8))))), (15, .int (nI (mGoal K (nb xs 24 8) (nb xs 32 8)))), (14, .int (nI (mSrc K (nb xs 8 8) (nb xs 16 8)))), (12, .long (lN (nb xs 32 8))), (10, .long (lN (nb xs 24 8))), (8, .long (lN (nb xs 16 8))), (6, .long (lN (nb xs 8 8))), (5, .int (nI (sqHL (xs.getD 7 0)))), (4, .int (nI (sqTF (pkT xs) (pkL xs)))), (3, .int (bI (hasPB xs))), (0, .ref (tw_ad G 8)), (1, .ref (tw_ad G 1)), (2, .ref (tw_ad G q))] 163 []
      refine TW.sS (S' := tw_uR S q ((([] : List Nat) ++ [(sqB1 (sqTF (pkT xs) (pkL xs)) (sqHL (xs.getD 7 0)) false) % 256] ++ [(128 + (mSrc K (nb xs 8 8) (nb xs 16 8)) * 16 + mGoal K (nb xs 24 8) (nb xs 32 8)) % 256]).take (tw_cap q))) (by rw [tw_uR_uR, tk_tk]) ?_
      refine tw_iload C dX8_write_163 0 rfl ?_
      refine tn_if_eq C dX8_write_165 (tgt := 174) (by decide) (by omega) (fun cc => ?_) (fun cc => ?_)
      · exact absurd cc (by omega)
      refine tw_aload_n C dX8_write_168 12 rfl ?_
      refine tw_iload C dX8_write_169 0 rfl ?_
      refine tw_callV (As := [.int (nI ((16 * (ctxN K (mSrc K (nb xs 8 8) (nb xs 16 8)) (nb xs 8 8))) + (ctxN K (mGoal K (nb xs 24 8) (nb xs 32 8)) (nb xs 24 8))))]) (rest := []) C N (e_X7_add hG hq (xs := (([] : List Nat) ++ [(sqB1 (sqTF (pkT xs) (pkL xs)) (sqHL (xs.getD 7 0)) false) % 256] ++ [(128 + (mSrc K (nb xs 8 8) (nb xs 16 8)) * 16 + mGoal K (nb xs 24 8) (nb xs 32 8)) % 256]).take (tw_cap q)) (tq_uR_same _ _ _) (x := (16 * (ctxN K (mSrc K (nb xs 8 8) (nb xs 16 8)) (nb xs 8 8))) + (ctxN K (mGoal K (nb xs 24 8) (nb xs 32 8)) (nb xs 24 8)))) mm_X7_add wd_357 rfl (hG _ (tw_row_lt hq).2) (tw_row_sh hq) rfl (by decide) rfl (Nat.le_of_ble_eq_true rfl) dX8_write_171 ?_
      rintro _ _ rfl
      show TW G X (tw_uR (tw_uR S q ((([] : List Nat) ++ [(sqB1 (sqTF (pkT xs) (pkL xs)) (sqHL (xs.getD 7 0)) false) % 256] ++ [(128 + (mSrc K (nb xs 8 8) (nb xs 16 8)) * 16 + mGoal K (nb xs 24 8) (nb xs 32 8)) % 256]).take (tw_cap q))) q ((((([] : List Nat) ++ [(sqB1 (sqTF (pkT xs) (pkL xs)) (sqHL (xs.getD 7 0)) false) % 256] ++ [(128 + (mSrc K (nb xs 8 8) (nb xs 16 8)) * 16 + mGoal K (nb xs 24 8) (nb xs 32 8)) % 256]).take (tw_cap q)) ++ [((16 * (ctxN K (mSrc K (nb xs 8 8) (nb xs 16 8)) (nb xs 8 8))) + (ctxN K (mGoal K (nb xs 24 8) (nb xs 32 8)) (nb xs 24 8))) % 256]).take (tw_cap q))) [(16, .int (nI ((16 * (ctxN K (mSrc K (nb xs 8 8) (nb xs 16 8)) (nb xs 8 8))) + (ctxN K (mGoal K (nb xs 24 8) (nb xs 32 8)) (nb xs 24 8))))), (15, .int (nI (mGoal K (nb xs 24 8) (nb xs 32 8)))), (14, .int (nI (mSrc K (nb xs 8 8) (nb xs 16 8)))), (12, .long (lN (nb xs 32 8))), (10, .long (lN (nb xs 24 8))), (8, .long (lN (nb xs 16 8))), (6, .long (lN (nb xs 8 8))), (5, .int (nI (sqHL (xs.getD 7 0)))), (4, .int (nI (sqTF (pkT xs) (pkL xs)))), (3, .int (bI (hasPB xs))), (0, .ref (tw_ad G 8)), (1, .ref (tw_ad G 1)), (2, .ref (tw_ad G q))] 174 []
      refine TW.sS (S' := tw_uR S q ((([] : List Nat) ++ [(sqB1 (sqTF (pkT xs) (pkL xs)) (sqHL (xs.getD 7 0)) false) % 256] ++ [(128 + (mSrc K (nb xs 8 8) (nb xs 16 8)) * 16 + mGoal K (nb xs 24 8) (nb xs 32 8)) % 256] ++ [((16 * (ctxN K (mSrc K (nb xs 8 8) (nb xs 16 8)) (nb xs 8 8))) + (ctxN K (mGoal K (nb xs 24 8) (nb xs 32 8)) (nb xs 24 8))) % 256]).take (tw_cap q))) (by rw [tw_uR_uR, tk_tk]) ?_
      refine tw_aload_n C dX8_write_174 11 rfl ?_
      refine tw_iload C dX8_write_175 8 rfl ?_
      refine tw_aload_n C dX8_write_177 12 rfl ?_
      refine tw_callS (As := [.ref (tw_ad G 1), .int (nI (sqTF (pkT xs) (pkL xs))), .ref (tw_ad G q)]) (rest := []) C N (c_X8_writeTraffic hG hq hq1 (xs := xs) (ys := (([] : List Nat) ++ [(sqB1 (sqTF (pkT xs) (pkL xs)) (sqHL (xs.getD 7 0)) false) % 256] ++ [(128 + (mSrc K (nb xs 8 8) (nb xs 16 8)) * 16 + mGoal K (nb xs 24 8) (nb xs 32 8)) % 256] ++ [((16 * (ctxN K (mSrc K (nb xs 8 8) (nb xs 16 8)) (nb xs 8 8))) + (ctxN K (mGoal K (nb xs 24 8) (nb xs 32 8)) (nb xs 24 8))) % 256]).take (tw_cap q)) ((tq_uR_ne _ _ hq1).trans hx) (tq_uR_same _ _ _) (tf := sqTF (pkT xs) (pkL xs)) (sqTF_lt _ _) sqTF_1) mm_X8_writeTraffic wd_358 rfl (by decide) rfl (Nat.le_of_ble_eq_true rfl) dX8_write_178 ?_
      rintro _ _ rfl
      show TW G X (tw_uR (tw_uR S q ((([] : List Nat) ++ [(sqB1 (sqTF (pkT xs) (pkL xs)) (sqHL (xs.getD 7 0)) false) % 256] ++ [(128 + (mSrc K (nb xs 8 8) (nb xs 16 8)) * 16 + mGoal K (nb xs 24 8) (nb xs 32 8)) % 256] ++ [((16 * (ctxN K (mSrc K (nb xs 8 8) (nb xs 16 8)) (nb xs 8 8))) + (ctxN K (mGoal K (nb xs 24 8) (nb xs 32 8)) (nb xs 24 8))) % 256]).take (tw_cap q))) q ((((([] : List Nat) ++ [(sqB1 (sqTF (pkT xs) (pkL xs)) (sqHL (xs.getD 7 0)) false) % 256] ++ [(128 + (mSrc K (nb xs 8 8) (nb xs 16 8)) * 16 + mGoal K (nb xs 24 8) (nb xs 32 8)) % 256] ++ [((16 * (ctxN K (mSrc K (nb xs 8 8) (nb xs 16 8)) (nb xs 8 8))) + (ctxN K (mGoal K (nb xs 24 8) (nb xs 32 8)) (nb xs 24 8))) % 256]).take (tw_cap q)) ++ sqTr (sqTF (pkT xs) (pkL xs)) (pkT xs) (pkL xs)).take (tw_cap q))) [(16, .int (nI ((16 * (ctxN K (mSrc K (nb xs 8 8) (nb xs 16 8)) (nb xs 8 8))) + (ctxN K (mGoal K (nb xs 24 8) (nb xs 32 8)) (nb xs 24 8))))), (15, .int (nI (mGoal K (nb xs 24 8) (nb xs 32 8)))), (14, .int (nI (mSrc K (nb xs 8 8) (nb xs 16 8)))), (12, .long (lN (nb xs 32 8))), (10, .long (lN (nb xs 24 8))), (8, .long (lN (nb xs 16 8))), (6, .long (lN (nb xs 8 8))), (5, .int (nI (sqHL (xs.getD 7 0)))), (4, .int (nI (sqTF (pkT xs) (pkL xs)))), (3, .int (bI (hasPB xs))), (0, .ref (tw_ad G 8)), (1, .ref (tw_ad G 1)), (2, .ref (tw_ad G q))] 181 []
      refine TW.sS (S' := tw_uR S q ((([] : List Nat) ++ [(sqB1 (sqTF (pkT xs) (pkL xs)) (sqHL (xs.getD 7 0)) false) % 256] ++ [(128 + (mSrc K (nb xs 8 8) (nb xs 16 8)) * 16 + mGoal K (nb xs 24 8) (nb xs 32 8)) % 256] ++ [((16 * (ctxN K (mSrc K (nb xs 8 8) (nb xs 16 8)) (nb xs 8 8))) + (ctxN K (mGoal K (nb xs 24 8) (nb xs 32 8)) (nb xs 24 8))) % 256] ++ sqTr (sqTF (pkT xs) (pkL xs)) (pkT xs) (pkL xs)).take (tw_cap q))) (by rw [tw_uR_uR, tk_tk]) ?_
      refine tw_iload_n C dX8_write_181 9 rfl ?_
      refine tb_if_ne C dX8_write_182 (tgt := 195) (by decide) (fun cb => ?_) (fun cb => ?_)
      · exact absurd cb (by simp [hpb])
      refine tw_aload_n C dX8_write_185 12 rfl ?_
      refine tw_aload_n C dX8_write_186 11 rfl ?_
      refine tw_bipush C dX8_write_187 (v := nI 6) (by decide) ?_
      refine tw_callV (As := [.int (nI 6)]) (rest := [.ref (tw_ad G q)]) C N (e_X7_at hG tw_row1 (xs := xs) ((tq_uR_ne _ _ hq1).trans hx) (i := 6) (by omega)) mm_X7_at wd_314 rfl (hG 1 (by decide)) sh_1 rfl (by decide) rfl (Nat.le_of_ble_eq_true rfl) dX8_write_189 ?_
      rintro _ _ ⟨rfl, rfl⟩
      show TW G X (tw_uR S q ((([] : List Nat) ++ [(sqB1 (sqTF (pkT xs) (pkL xs)) (sqHL (xs.getD 7 0)) false) % 256] ++ [(128 + (mSrc K (nb xs 8 8) (nb xs 16 8)) * 16 + mGoal K (nb xs 24 8) (nb xs 32 8)) % 256] ++ [((16 * (ctxN K (mSrc K (nb xs 8 8) (nb xs 16 8)) (nb xs 8 8))) + (ctxN K (mGoal K (nb xs 24 8) (nb xs 32 8)) (nb xs 24 8))) % 256] ++ sqTr (sqTF (pkT xs) (pkL xs)) (pkT xs) (pkL xs)).take (tw_cap q))) [(16, .int (nI ((16 * (ctxN K (mSrc K (nb xs 8 8) (nb xs 16 8)) (nb xs 8 8))) + (ctxN K (mGoal K (nb xs 24 8) (nb xs 32 8)) (nb xs 24 8))))), (15, .int (nI (mGoal K (nb xs 24 8) (nb xs 32 8)))), (14, .int (nI (mSrc K (nb xs 8 8) (nb xs 16 8)))), (12, .long (lN (nb xs 32 8))), (10, .long (lN (nb xs 24 8))), (8, .long (lN (nb xs 16 8))), (6, .long (lN (nb xs 8 8))), (5, .int (nI (sqHL (xs.getD 7 0)))), (4, .int (nI (sqTF (pkT xs) (pkL xs)))), (3, .int (bI (hasPB xs))), (0, .ref (tw_ad G 8)), (1, .ref (tw_ad G 1)), (2, .ref (tw_ad G q))] 192 [.int (nI (xs.getD 6 0)), .ref (tw_ad G q)]
      refine tw_callV (As := [.int (nI (xs.getD 6 0))]) (rest := []) C N (e_X7_add hG hq (xs := (([] : List Nat) ++ [(sqB1 (sqTF (pkT xs) (pkL xs)) (sqHL (xs.getD 7 0)) false) % 256] ++ [(128 + (mSrc K (nb xs 8 8) (nb xs 16 8)) * 16 + mGoal K (nb xs 24 8) (nb xs 32 8)) % 256] ++ [((16 * (ctxN K (mSrc K (nb xs 8 8) (nb xs 16 8)) (nb xs 8 8))) + (ctxN K (mGoal K (nb xs 24 8) (nb xs 32 8)) (nb xs 24 8))) % 256] ++ sqTr (sqTF (pkT xs) (pkL xs)) (pkT xs) (pkL xs)).take (tw_cap q)) (tq_uR_same _ _ _) (x := xs.getD 6 0)) mm_X7_add wd_357 rfl (hG _ (tw_row_lt hq).2) (tw_row_sh hq) rfl (by decide) rfl (Nat.le_of_ble_eq_true rfl) dX8_write_192 ?_
      rintro _ _ rfl
      show TW G X (tw_uR (tw_uR S q ((([] : List Nat) ++ [(sqB1 (sqTF (pkT xs) (pkL xs)) (sqHL (xs.getD 7 0)) false) % 256] ++ [(128 + (mSrc K (nb xs 8 8) (nb xs 16 8)) * 16 + mGoal K (nb xs 24 8) (nb xs 32 8)) % 256] ++ [((16 * (ctxN K (mSrc K (nb xs 8 8) (nb xs 16 8)) (nb xs 8 8))) + (ctxN K (mGoal K (nb xs 24 8) (nb xs 32 8)) (nb xs 24 8))) % 256] ++ sqTr (sqTF (pkT xs) (pkL xs)) (pkT xs) (pkL xs)).take (tw_cap q))) q ((((([] : List Nat) ++ [(sqB1 (sqTF (pkT xs) (pkL xs)) (sqHL (xs.getD 7 0)) false) % 256] ++ [(128 + (mSrc K (nb xs 8 8) (nb xs 16 8)) * 16 + mGoal K (nb xs 24 8) (nb xs 32 8)) % 256] ++ [((16 * (ctxN K (mSrc K (nb xs 8 8) (nb xs 16 8)) (nb xs 8 8))) + (ctxN K (mGoal K (nb xs 24 8) (nb xs 32 8)) (nb xs 24 8))) % 256] ++ sqTr (sqTF (pkT xs) (pkL xs)) (pkT xs) (pkL xs)).take (tw_cap q)) ++ [(xs.getD 6 0) % 256]).take (tw_cap q))) [(16, .int (nI ((16 * (ctxN K (mSrc K (nb xs 8 8) (nb xs 16 8)) (nb xs 8 8))) + (ctxN K (mGoal K (nb xs 24 8) (nb xs 32 8)) (nb xs 24 8))))), (15, .int (nI (mGoal K (nb xs 24 8) (nb xs 32 8)))), (14, .int (nI (mSrc K (nb xs 8 8) (nb xs 16 8)))), (12, .long (lN (nb xs 32 8))), (10, .long (lN (nb xs 24 8))), (8, .long (lN (nb xs 16 8))), (6, .long (lN (nb xs 8 8))), (5, .int (nI (sqHL (xs.getD 7 0)))), (4, .int (nI (sqTF (pkT xs) (pkL xs)))), (3, .int (bI (hasPB xs))), (0, .ref (tw_ad G 8)), (1, .ref (tw_ad G 1)), (2, .ref (tw_ad G q))] 195 []
      refine TW.sS (S' := tw_uR S q ((([] : List Nat) ++ [(sqB1 (sqTF (pkT xs) (pkL xs)) (sqHL (xs.getD 7 0)) false) % 256] ++ [(128 + (mSrc K (nb xs 8 8) (nb xs 16 8)) * 16 + mGoal K (nb xs 24 8) (nb xs 32 8)) % 256] ++ [((16 * (ctxN K (mSrc K (nb xs 8 8) (nb xs 16 8)) (nb xs 8 8))) + (ctxN K (mGoal K (nb xs 24 8) (nb xs 32 8)) (nb xs 24 8))) % 256] ++ sqTr (sqTF (pkT xs) (pkL xs)) (pkT xs) (pkL xs) ++ [(xs.getD 6 0) % 256]).take (tw_cap q))) (by rw [tw_uR_uR, tk_tk]) ?_
      refine tw_iload C dX8_write_195 7 rfl ?_
      refine tn_if_ne C dX8_write_197 (tgt := 210) (by decide) (by omega) (fun ch => ?_) (fun ch => ?_)
      · exact absurd ch (by omega)
      refine tw_aload_n C dX8_write_200 12 rfl ?_
      refine tw_aload_n C dX8_write_201 11 rfl ?_
      refine tw_bipush C dX8_write_202 (v := nI 7) (by decide) ?_
      refine tw_callV (As := [.int (nI 7)]) (rest := [.ref (tw_ad G q)]) C N (e_X7_at hG tw_row1 (xs := xs) ((tq_uR_ne _ _ hq1).trans hx) (i := 7) (by omega)) mm_X7_at wd_314 rfl (hG 1 (by decide)) sh_1 rfl (by decide) rfl (Nat.le_of_ble_eq_true rfl) dX8_write_204 ?_
      rintro _ _ ⟨rfl, rfl⟩
      show TW G X (tw_uR S q ((([] : List Nat) ++ [(sqB1 (sqTF (pkT xs) (pkL xs)) (sqHL (xs.getD 7 0)) false) % 256] ++ [(128 + (mSrc K (nb xs 8 8) (nb xs 16 8)) * 16 + mGoal K (nb xs 24 8) (nb xs 32 8)) % 256] ++ [((16 * (ctxN K (mSrc K (nb xs 8 8) (nb xs 16 8)) (nb xs 8 8))) + (ctxN K (mGoal K (nb xs 24 8) (nb xs 32 8)) (nb xs 24 8))) % 256] ++ sqTr (sqTF (pkT xs) (pkL xs)) (pkT xs) (pkL xs) ++ [(xs.getD 6 0) % 256]).take (tw_cap q))) [(16, .int (nI ((16 * (ctxN K (mSrc K (nb xs 8 8) (nb xs 16 8)) (nb xs 8 8))) + (ctxN K (mGoal K (nb xs 24 8) (nb xs 32 8)) (nb xs 24 8))))), (15, .int (nI (mGoal K (nb xs 24 8) (nb xs 32 8)))), (14, .int (nI (mSrc K (nb xs 8 8) (nb xs 16 8)))), (12, .long (lN (nb xs 32 8))), (10, .long (lN (nb xs 24 8))), (8, .long (lN (nb xs 16 8))), (6, .long (lN (nb xs 8 8))), (5, .int (nI (sqHL (xs.getD 7 0)))), (4, .int (nI (sqTF (pkT xs) (pkL xs)))), (3, .int (bI (hasPB xs))), (0, .ref (tw_ad G 8)), (1, .ref (tw_ad G 1)), (2, .ref (tw_ad G q))] 207 [.int (nI (xs.getD 7 0)), .ref (tw_ad G q)]
      refine tw_callV (As := [.int (nI (xs.getD 7 0))]) (rest := []) C N (e_X7_add hG hq (xs := (([] : List Nat) ++ [(sqB1 (sqTF (pkT xs) (pkL xs)) (sqHL (xs.getD 7 0)) false) % 256] ++ [(128 + (mSrc K (nb xs 8 8) (nb xs 16 8)) * 16 + mGoal K (nb xs 24 8) (nb xs 32 8)) % 256] ++ [((16 * (ctxN K (mSrc K (nb xs 8 8) (nb xs 16 8)) (nb xs 8 8))) + (ctxN K (mGoal K (nb xs 24 8) (nb xs 32 8)) (nb xs 24 8))) % 256] ++ sqTr (sqTF (pkT xs) (pkL xs)) (pkT xs) (pkL xs) ++ [(xs.getD 6 0) % 256]).take (tw_cap q)) (tq_uR_same _ _ _) (x := xs.getD 7 0)) mm_X7_add wd_357 rfl (hG _ (tw_row_lt hq).2) (tw_row_sh hq) rfl (by decide) rfl (Nat.le_of_ble_eq_true rfl) dX8_write_207 ?_
      rintro _ _ rfl
      show TW G X (tw_uR (tw_uR S q ((([] : List Nat) ++ [(sqB1 (sqTF (pkT xs) (pkL xs)) (sqHL (xs.getD 7 0)) false) % 256] ++ [(128 + (mSrc K (nb xs 8 8) (nb xs 16 8)) * 16 + mGoal K (nb xs 24 8) (nb xs 32 8)) % 256] ++ [((16 * (ctxN K (mSrc K (nb xs 8 8) (nb xs 16 8)) (nb xs 8 8))) + (ctxN K (mGoal K (nb xs 24 8) (nb xs 32 8)) (nb xs 24 8))) % 256] ++ sqTr (sqTF (pkT xs) (pkL xs)) (pkT xs) (pkL xs) ++ [(xs.getD 6 0) % 256]).take (tw_cap q))) q ((((([] : List Nat) ++ [(sqB1 (sqTF (pkT xs) (pkL xs)) (sqHL (xs.getD 7 0)) false) % 256] ++ [(128 + (mSrc K (nb xs 8 8) (nb xs 16 8)) * 16 + mGoal K (nb xs 24 8) (nb xs 32 8)) % 256] ++ [((16 * (ctxN K (mSrc K (nb xs 8 8) (nb xs 16 8)) (nb xs 8 8))) + (ctxN K (mGoal K (nb xs 24 8) (nb xs 32 8)) (nb xs 24 8))) % 256] ++ sqTr (sqTF (pkT xs) (pkL xs)) (pkT xs) (pkL xs) ++ [(xs.getD 6 0) % 256]).take (tw_cap q)) ++ [(xs.getD 7 0) % 256]).take (tw_cap q))) [(16, .int (nI ((16 * (ctxN K (mSrc K (nb xs 8 8) (nb xs 16 8)) (nb xs 8 8))) + (ctxN K (mGoal K (nb xs 24 8) (nb xs 32 8)) (nb xs 24 8))))), (15, .int (nI (mGoal K (nb xs 24 8) (nb xs 32 8)))), (14, .int (nI (mSrc K (nb xs 8 8) (nb xs 16 8)))), (12, .long (lN (nb xs 32 8))), (10, .long (lN (nb xs 24 8))), (8, .long (lN (nb xs 16 8))), (6, .long (lN (nb xs 8 8))), (5, .int (nI (sqHL (xs.getD 7 0)))), (4, .int (nI (sqTF (pkT xs) (pkL xs)))), (3, .int (bI (hasPB xs))), (0, .ref (tw_ad G 8)), (1, .ref (tw_ad G 1)), (2, .ref (tw_ad G q))] 210 []
      refine TW.sS (S' := tw_uR S q ((([] : List Nat) ++ [(sqB1 (sqTF (pkT xs) (pkL xs)) (sqHL (xs.getD 7 0)) false) % 256] ++ [(128 + (mSrc K (nb xs 8 8) (nb xs 16 8)) * 16 + mGoal K (nb xs 24 8) (nb xs 32 8)) % 256] ++ [((16 * (ctxN K (mSrc K (nb xs 8 8) (nb xs 16 8)) (nb xs 8 8))) + (ctxN K (mGoal K (nb xs 24 8) (nb xs 32 8)) (nb xs 24 8))) % 256] ++ sqTr (sqTF (pkT xs) (pkL xs)) (pkT xs) (pkL xs) ++ [(xs.getD 6 0) % 256] ++ [(xs.getD 7 0) % 256]).take (tw_cap q))) (by rw [tw_uR_uR, tk_tk]) ?_
      refine tw_iload C dX8_write_210 2 rfl ?_
      refine tw_lload C dX8_write_212 6 rfl ?_
      refine tw_lload C dX8_write_214 5 rfl ?_
      refine tw_aload_n C dX8_write_216 12 rfl ?_
      refine tw_callS (As := [.int (nI (mSrc K (nb xs 8 8) (nb xs 16 8))), .long (lN (nb xs 8 8)), .long (lN (nb xs 16 8)), .ref (tw_ad G q)]) (rest := []) C N (c_X8_writeAddress hG hq (ys := (([] : List Nat) ++ [(sqB1 (sqTF (pkT xs) (pkL xs)) (sqHL (xs.getD 7 0)) false) % 256] ++ [(128 + (mSrc K (nb xs 8 8) (nb xs 16 8)) * 16 + mGoal K (nb xs 24 8) (nb xs 32 8)) % 256] ++ [((16 * (ctxN K (mSrc K (nb xs 8 8) (nb xs 16 8)) (nb xs 8 8))) + (ctxN K (mGoal K (nb xs 24 8) (nb xs 32 8)) (nb xs 24 8))) % 256] ++ sqTr (sqTF (pkT xs) (pkL xs)) (pkT xs) (pkL xs) ++ [(xs.getD 6 0) % 256] ++ [(xs.getD 7 0) % 256]).take (tw_cap q)) (tq_uR_same _ _ _) (m := mSrc K (nb xs 8 8) (nb xs 16 8)) (f := nb xs 8 8) (l := nb xs 16 8) (by omega) (by omega) (by omega)) mm_X8_writeAddress wd_362 rfl (by decide) rfl (Nat.le_of_ble_eq_true rfl) dX8_write_217 ?_
      rintro _ _ rfl
      show TW G X (tw_uR (tw_uR S q ((([] : List Nat) ++ [(sqB1 (sqTF (pkT xs) (pkL xs)) (sqHL (xs.getD 7 0)) false) % 256] ++ [(128 + (mSrc K (nb xs 8 8) (nb xs 16 8)) * 16 + mGoal K (nb xs 24 8) (nb xs 32 8)) % 256] ++ [((16 * (ctxN K (mSrc K (nb xs 8 8) (nb xs 16 8)) (nb xs 8 8))) + (ctxN K (mGoal K (nb xs 24 8) (nb xs 32 8)) (nb xs 24 8))) % 256] ++ sqTr (sqTF (pkT xs) (pkL xs)) (pkT xs) (pkL xs) ++ [(xs.getD 6 0) % 256] ++ [(xs.getD 7 0) % 256]).take (tw_cap q))) q ((((([] : List Nat) ++ [(sqB1 (sqTF (pkT xs) (pkL xs)) (sqHL (xs.getD 7 0)) false) % 256] ++ [(128 + (mSrc K (nb xs 8 8) (nb xs 16 8)) * 16 + mGoal K (nb xs 24 8) (nb xs 32 8)) % 256] ++ [((16 * (ctxN K (mSrc K (nb xs 8 8) (nb xs 16 8)) (nb xs 8 8))) + (ctxN K (mGoal K (nb xs 24 8) (nb xs 32 8)) (nb xs 24 8))) % 256] ++ sqTr (sqTF (pkT xs) (pkL xs)) (pkT xs) (pkL xs) ++ [(xs.getD 6 0) % 256] ++ [(xs.getD 7 0) % 256]).take (tw_cap q)) ++ sqAd (mSrc K (nb xs 8 8) (nb xs 16 8)) (nb xs 8 8) (nb xs 16 8)).take (tw_cap q))) [(16, .int (nI ((16 * (ctxN K (mSrc K (nb xs 8 8) (nb xs 16 8)) (nb xs 8 8))) + (ctxN K (mGoal K (nb xs 24 8) (nb xs 32 8)) (nb xs 24 8))))), (15, .int (nI (mGoal K (nb xs 24 8) (nb xs 32 8)))), (14, .int (nI (mSrc K (nb xs 8 8) (nb xs 16 8)))), (12, .long (lN (nb xs 32 8))), (10, .long (lN (nb xs 24 8))), (8, .long (lN (nb xs 16 8))), (6, .long (lN (nb xs 8 8))), (5, .int (nI (sqHL (xs.getD 7 0)))), (4, .int (nI (sqTF (pkT xs) (pkL xs)))), (3, .int (bI (hasPB xs))), (0, .ref (tw_ad G 8)), (1, .ref (tw_ad G 1)), (2, .ref (tw_ad G q))] 220 []
      refine TW.sS (S' := tw_uR S q ((([] : List Nat) ++ [(sqB1 (sqTF (pkT xs) (pkL xs)) (sqHL (xs.getD 7 0)) false) % 256] ++ [(128 + (mSrc K (nb xs 8 8) (nb xs 16 8)) * 16 + mGoal K (nb xs 24 8) (nb xs 32 8)) % 256] ++ [((16 * (ctxN K (mSrc K (nb xs 8 8) (nb xs 16 8)) (nb xs 8 8))) + (ctxN K (mGoal K (nb xs 24 8) (nb xs 32 8)) (nb xs 24 8))) % 256] ++ sqTr (sqTF (pkT xs) (pkL xs)) (pkT xs) (pkL xs) ++ [(xs.getD 6 0) % 256] ++ [(xs.getD 7 0) % 256] ++ sqAd (mSrc K (nb xs 8 8) (nb xs 16 8)) (nb xs 8 8) (nb xs 16 8)).take (tw_cap q))) (by rw [tw_uR_uR, tk_tk]) ?_
      refine tw_iload C dX8_write_220 1 rfl ?_
      refine tw_lload C dX8_write_222 4 rfl ?_
      refine tw_lload C dX8_write_224 3 rfl ?_
      refine tw_aload_n C dX8_write_226 12 rfl ?_
      refine tw_callS (As := [.int (nI (mGoal K (nb xs 24 8) (nb xs 32 8))), .long (lN (nb xs 24 8)), .long (lN (nb xs 32 8)), .ref (tw_ad G q)]) (rest := []) C N (c_X8_writeAddress hG hq (ys := (([] : List Nat) ++ [(sqB1 (sqTF (pkT xs) (pkL xs)) (sqHL (xs.getD 7 0)) false) % 256] ++ [(128 + (mSrc K (nb xs 8 8) (nb xs 16 8)) * 16 + mGoal K (nb xs 24 8) (nb xs 32 8)) % 256] ++ [((16 * (ctxN K (mSrc K (nb xs 8 8) (nb xs 16 8)) (nb xs 8 8))) + (ctxN K (mGoal K (nb xs 24 8) (nb xs 32 8)) (nb xs 24 8))) % 256] ++ sqTr (sqTF (pkT xs) (pkL xs)) (pkT xs) (pkL xs) ++ [(xs.getD 6 0) % 256] ++ [(xs.getD 7 0) % 256] ++ sqAd (mSrc K (nb xs 8 8) (nb xs 16 8)) (nb xs 8 8) (nb xs 16 8)).take (tw_cap q)) (tq_uR_same _ _ _) (m := mGoal K (nb xs 24 8) (nb xs 32 8)) (f := nb xs 24 8) (l := nb xs 32 8) (by omega) (by omega) (by omega)) mm_X8_writeAddress wd_362 rfl (by decide) rfl (Nat.le_of_ble_eq_true rfl) dX8_write_227 ?_
      rintro _ _ rfl
      show TW G X (tw_uR (tw_uR S q ((([] : List Nat) ++ [(sqB1 (sqTF (pkT xs) (pkL xs)) (sqHL (xs.getD 7 0)) false) % 256] ++ [(128 + (mSrc K (nb xs 8 8) (nb xs 16 8)) * 16 + mGoal K (nb xs 24 8) (nb xs 32 8)) % 256] ++ [((16 * (ctxN K (mSrc K (nb xs 8 8) (nb xs 16 8)) (nb xs 8 8))) + (ctxN K (mGoal K (nb xs 24 8) (nb xs 32 8)) (nb xs 24 8))) % 256] ++ sqTr (sqTF (pkT xs) (pkL xs)) (pkT xs) (pkL xs) ++ [(xs.getD 6 0) % 256] ++ [(xs.getD 7 0) % 256] ++ sqAd (mSrc K (nb xs 8 8) (nb xs 16 8)) (nb xs 8 8) (nb xs 16 8)).take (tw_cap q))) q ((((([] : List Nat) ++ [(sqB1 (sqTF (pkT xs) (pkL xs)) (sqHL (xs.getD 7 0)) false) % 256] ++ [(128 + (mSrc K (nb xs 8 8) (nb xs 16 8)) * 16 + mGoal K (nb xs 24 8) (nb xs 32 8)) % 256] ++ [((16 * (ctxN K (mSrc K (nb xs 8 8) (nb xs 16 8)) (nb xs 8 8))) + (ctxN K (mGoal K (nb xs 24 8) (nb xs 32 8)) (nb xs 24 8))) % 256] ++ sqTr (sqTF (pkT xs) (pkL xs)) (pkT xs) (pkL xs) ++ [(xs.getD 6 0) % 256] ++ [(xs.getD 7 0) % 256] ++ sqAd (mSrc K (nb xs 8 8) (nb xs 16 8)) (nb xs 8 8) (nb xs 16 8)).take (tw_cap q)) ++ sqAd (mGoal K (nb xs 24 8) (nb xs 32 8)) (nb xs 24 8) (nb xs 32 8)).take (tw_cap q))) [(16, .int (nI ((16 * (ctxN K (mSrc K (nb xs 8 8) (nb xs 16 8)) (nb xs 8 8))) + (ctxN K (mGoal K (nb xs 24 8) (nb xs 32 8)) (nb xs 24 8))))), (15, .int (nI (mGoal K (nb xs 24 8) (nb xs 32 8)))), (14, .int (nI (mSrc K (nb xs 8 8) (nb xs 16 8)))), (12, .long (lN (nb xs 32 8))), (10, .long (lN (nb xs 24 8))), (8, .long (lN (nb xs 16 8))), (6, .long (lN (nb xs 8 8))), (5, .int (nI (sqHL (xs.getD 7 0)))), (4, .int (nI (sqTF (pkT xs) (pkL xs)))), (3, .int (bI (hasPB xs))), (0, .ref (tw_ad G 8)), (1, .ref (tw_ad G 1)), (2, .ref (tw_ad G q))] 230 []
      refine TW.sS (S' := tw_uR S q ((([] : List Nat) ++ [(sqB1 (sqTF (pkT xs) (pkL xs)) (sqHL (xs.getD 7 0)) false) % 256] ++ [(128 + (mSrc K (nb xs 8 8) (nb xs 16 8)) * 16 + mGoal K (nb xs 24 8) (nb xs 32 8)) % 256] ++ [((16 * (ctxN K (mSrc K (nb xs 8 8) (nb xs 16 8)) (nb xs 8 8))) + (ctxN K (mGoal K (nb xs 24 8) (nb xs 32 8)) (nb xs 24 8))) % 256] ++ sqTr (sqTF (pkT xs) (pkL xs)) (pkT xs) (pkL xs) ++ [(xs.getD 6 0) % 256] ++ [(xs.getD 7 0) % 256] ++ sqAd (mSrc K (nb xs 8 8) (nb xs 16 8)) (nb xs 8 8) (nb xs 16 8) ++ sqAd (mGoal K (nb xs 24 8) (nb xs 32 8)) (nb xs 24 8) (nb xs 32 8)).take (tw_cap q))) (by rw [tw_uR_uR, tk_tk]) ?_
      refine tw_iload_n C dX8_write_230 9 rfl ?_
      refine tb_if_eq C dX8_write_231 (tgt := 239) (by decide) (fun cb => ?_) (fun cb => ?_)
      · skip
        refine TW.sS (S' := tw_uR S q ((sqHd K xs).take (tw_cap q))) (by congr 2; simp only [sqHd, sqB2, hpb, if_neg (Nat.pos_iff_ne_zero.mp hc0), if_pos hl0, hm1, hm2, hm2z, hm3, hm6, hm7, if_true, if_false, Bool.false_eq_true, List.nil_append, List.append_nil, List.append_assoc]) ?_
        refine tw_aload_n C dX8_write_239 12 rfl ?_
        refine tw_callV (As := []) (rest := []) C N (e_X7_length hG hq (xs := (sqHd K xs).take (tw_cap q)) (tq_uR_same _ _ _) ) mm_X7_length wd_372 rfl (hG _ (tw_row_lt hq).2) (tw_row_sh hq) rfl (by decide) rfl (Nat.le_of_ble_eq_true rfl) dX8_write_240 ?_
        rintro _ _ ⟨rfl, rfl⟩
        show TW G X (tw_uR S q ((sqHd K xs).take (tw_cap q))) [(16, .int (nI ((16 * (ctxN K (mSrc K (nb xs 8 8) (nb xs 16 8)) (nb xs 8 8))) + (ctxN K (mGoal K (nb xs 24 8) (nb xs 32 8)) (nb xs 24 8))))), (15, .int (nI (mGoal K (nb xs 24 8) (nb xs 32 8)))), (14, .int (nI (mSrc K (nb xs 8 8) (nb xs 16 8)))), (12, .long (lN (nb xs 32 8))), (10, .long (lN (nb xs 24 8))), (8, .long (lN (nb xs 16 8))), (6, .long (lN (nb xs 8 8))), (5, .int (nI (sqHL (xs.getD 7 0)))), (4, .int (nI (sqTF (pkT xs) (pkL xs)))), (3, .int (bI (hasPB xs))), (0, .ref (tw_ad G 8)), (1, .ref (tw_ad G 1)), (2, .ref (tw_ad G q))] 243 [.int (nI (((sqHd K xs).take (tw_cap q)).length))]
        refine tw_istore (L' := [(17, .int (nI (((sqHd K xs).take (tw_cap q)).length))), (16, .int (nI ((16 * (ctxN K (mSrc K (nb xs 8 8) (nb xs 16 8)) (nb xs 8 8))) + (ctxN K (mGoal K (nb xs 24 8) (nb xs 32 8)) (nb xs 24 8))))), (15, .int (nI (mGoal K (nb xs 24 8) (nb xs 32 8)))), (14, .int (nI (mSrc K (nb xs 8 8) (nb xs 16 8)))), (12, .long (lN (nb xs 32 8))), (10, .long (lN (nb xs 24 8))), (8, .long (lN (nb xs 16 8))), (6, .long (lN (nb xs 8 8))), (5, .int (nI (sqHL (xs.getD 7 0)))), (4, .int (nI (sqTF (pkT xs) (pkL xs)))), (3, .int (bI (hasPB xs))), (0, .ref (tw_ad G 8)), (1, .ref (tw_ad G 1)), (2, .ref (tw_ad G q))]) C N dX8_write_243 (i := 17) (by decide) rfl ?_
        refine tw_aload_n C dX8_write_245 13 rfl ?_
        refine tw_aload_n C dX8_write_246 12 rfl ?_
        refine tw_aload_n C dX8_write_247 12 rfl ?_
        refine tw_callS (As := [.ref (tw_ad G 1)]) (rest := [.ref (tw_ad G 1), .ref (tw_ad G q)]) C N (c_X5_headOf hG tw_row1 (xs := xs) ((tq_uR_ne _ _ hq1).trans hx)) mm_X5_headOf wd_373 rfl (by decide) rfl (Nat.le_of_ble_eq_true rfl) dX8_write_248 ?_
        rintro _ _ ⟨rfl, rfl⟩
        show TW G X (tw_uR S q ((sqHd K xs).take (tw_cap q))) [(17, .int (nI (((sqHd K xs).take (tw_cap q)).length))), (16, .int (nI ((16 * (ctxN K (mSrc K (nb xs 8 8) (nb xs 16 8)) (nb xs 8 8))) + (ctxN K (mGoal K (nb xs 24 8) (nb xs 32 8)) (nb xs 24 8))))), (15, .int (nI (mGoal K (nb xs 24 8) (nb xs 32 8)))), (14, .int (nI (mSrc K (nb xs 8 8) (nb xs 16 8)))), (12, .long (lN (nb xs 32 8))), (10, .long (lN (nb xs 24 8))), (8, .long (lN (nb xs 16 8))), (6, .long (lN (nb xs 8 8))), (5, .int (nI (sqHL (xs.getD 7 0)))), (4, .int (nI (sqTF (pkT xs) (pkL xs)))), (3, .int (bI (hasPB xs))), (0, .ref (tw_ad G 8)), (1, .ref (tw_ad G 1)), (2, .ref (tw_ad G q))] 251 [.int (nI (pkH xs)), .ref (tw_ad G 1), .ref (tw_ad G q)]
        refine tw_aload_n C dX8_write_251 12 rfl ?_
        refine tw_callV (As := []) (rest := [.int (nI (pkH xs)), .ref (tw_ad G 1), .ref (tw_ad G q)]) C N (e_X7_length hG tw_row1 (xs := xs) ((tq_uR_ne _ _ hq1).trans hx) ) mm_X7_length wd_372 rfl (hG 1 (by decide)) sh_1 rfl (by decide) rfl (Nat.le_of_ble_eq_true rfl) dX8_write_252 ?_
        rintro _ _ ⟨rfl, rfl⟩
        show TW G X (tw_uR S q ((sqHd K xs).take (tw_cap q))) [(17, .int (nI (((sqHd K xs).take (tw_cap q)).length))), (16, .int (nI ((16 * (ctxN K (mSrc K (nb xs 8 8) (nb xs 16 8)) (nb xs 8 8))) + (ctxN K (mGoal K (nb xs 24 8) (nb xs 32 8)) (nb xs 24 8))))), (15, .int (nI (mGoal K (nb xs 24 8) (nb xs 32 8)))), (14, .int (nI (mSrc K (nb xs 8 8) (nb xs 16 8)))), (12, .long (lN (nb xs 32 8))), (10, .long (lN (nb xs 24 8))), (8, .long (lN (nb xs 16 8))), (6, .long (lN (nb xs 8 8))), (5, .int (nI (sqHL (xs.getD 7 0)))), (4, .int (nI (sqTF (pkT xs) (pkL xs)))), (3, .int (bI (hasPB xs))), (0, .ref (tw_ad G 8)), (1, .ref (tw_ad G 1)), (2, .ref (tw_ad G q))] 255 [.int (nI xs.length), .int (nI (pkH xs)), .ref (tw_ad G 1), .ref (tw_ad G q)]
        have hphp : pkH xs ≤ 48 := by unfold pkH; split <;> omega
        refine tw_callV (As := [.ref (tw_ad G 1), .int (nI (pkH xs)), .int (nI xs.length)]) (rest := []) C N (e_X7_addAll hG hq (xs := (sqHd K xs).take (tw_cap q)) (tq_uR_same _ _ _) tw_row1 hq1 (ys := xs) ((tq_uR_ne _ _ hq1).trans hx) (a := pkH xs) (e := xs.length) (by omega) (by omega)) mm_X7_addAll wd_377 rfl (hG _ (tw_row_lt hq).2) (tw_row_sh hq) rfl (by decide) rfl (Nat.le_of_ble_eq_true rfl) dX8_write_255 ?_
        rintro _ _ rfl
        show TW G X (tw_uR (tw_uR S q ((sqHd K xs).take (tw_cap q))) q ((((sqHd K xs).take (tw_cap q)) ++ cutD xs (pkH xs) (xs.length - (pkH xs))).take (tw_cap q))) [(17, .int (nI (((sqHd K xs).take (tw_cap q)).length))), (16, .int (nI ((16 * (ctxN K (mSrc K (nb xs 8 8) (nb xs 16 8)) (nb xs 8 8))) + (ctxN K (mGoal K (nb xs 24 8) (nb xs 32 8)) (nb xs 24 8))))), (15, .int (nI (mGoal K (nb xs 24 8) (nb xs 32 8)))), (14, .int (nI (mSrc K (nb xs 8 8) (nb xs 16 8)))), (12, .long (lN (nb xs 32 8))), (10, .long (lN (nb xs 24 8))), (8, .long (lN (nb xs 16 8))), (6, .long (lN (nb xs 8 8))), (5, .int (nI (sqHL (xs.getD 7 0)))), (4, .int (nI (sqTF (pkT xs) (pkL xs)))), (3, .int (bI (hasPB xs))), (0, .ref (tw_ad G 8)), (1, .ref (tw_ad G 1)), (2, .ref (tw_ad G q))] 258 []
        refine TW.sS (S' := tw_uR S q ((sqHd K xs ++ cutD xs (pkH xs) (xs.length - (pkH xs))).take (tw_cap q))) (by rw [tw_uR_uR, tk_tk]) ?_
        refine tw_iload C dX8_write_258 0 rfl ?_
        exact tw_ireturn C Q dX8_write_260 rfl rfl rfl ⟨by rw [List.length_take, Nat.min_eq_right (by omega)], rfl⟩
      · exact absurd cb (by simp [hpb])
    · exact absurd cb (by simp [hpb])
  · skip
    refine tw_bipush C dX8_write_116 (v := nI 96) (by decide) ?_
    refine tw_iload C dX8_write_118 8 rfl ?_
    refine tw_iconst C dX8_write_120 (v := nI 3) (by decide) ?_
    refine tw_ishl C dX8_write_121 (v := nI ((sqTF (pkT xs) (pkL xs)) * 8)) (nI_shl _ 3 (by decide)) ?_
    refine tw_ior C dX8_write_122 (v := nI (96 ||| ((sqTF (pkT xs) (pkL xs)) * 8))) (nI_or _ _) ?_
    refine tw_iload_n C dX8_write_123 9 rfl ?_
    refine tb_if_eq C dX8_write_124 (tgt := 131) (by decide) (fun cb => ?_) (fun cb => ?_)
    · skip
      refine tw_iconst C dX8_write_131 (v := nI 0) (by decide) ?_
      refine tw_ior C dX8_write_132 (v := nI ((96 ||| ((sqTF (pkT xs) (pkL xs)) * 8)) ||| 0)) (nI_or _ _) ?_
      refine tw_iload C dX8_write_133 7 rfl ?_
      refine tw_ior C dX8_write_135 (v := nI (sqB1 (sqTF (pkT xs) (pkL xs)) (sqHL (xs.getD 7 0)) false)) (by rw [nI_or, (sqB1_or _ (sqTF_lt _ _) _ (sqHL_lt _)).2.1]) ?_
      refine tw_callV (As := [.int (nI (sqB1 (sqTF (pkT xs) (pkL xs)) (sqHL (xs.getD 7 0)) false))]) (rest := []) C N (e_X7_add hG hq (xs := (([] : List Nat)).take (tw_cap q)) (tq_uR_same _ _ _) (x := sqB1 (sqTF (pkT xs) (pkL xs)) (sqHL (xs.getD 7 0)) false)) mm_X7_add wd_357 rfl (hG _ (tw_row_lt hq).2) (tw_row_sh hq) rfl (by decide) rfl (Nat.le_of_ble_eq_true rfl) dX8_write_136 ?_
      rintro _ _ rfl
      show TW G X (tw_uR (tw_uR S q ((([] : List Nat)).take (tw_cap q))) q ((((([] : List Nat)).take (tw_cap q)) ++ [(sqB1 (sqTF (pkT xs) (pkL xs)) (sqHL (xs.getD 7 0)) false) % 256]).take (tw_cap q))) [(16, .int (nI ((16 * (ctxN K (mSrc K (nb xs 8 8) (nb xs 16 8)) (nb xs 8 8))) + (ctxN K (mGoal K (nb xs 24 8) (nb xs 32 8)) (nb xs 24 8))))), (15, .int (nI (mGoal K (nb xs 24 8) (nb xs 32 8)))), (14, .int (nI (mSrc K (nb xs 8 8) (nb xs 16 8)))), (12, .long (lN (nb xs 32 8))), (10, .long (lN (nb xs 24 8))), (8, .long (lN (nb xs 16 8))), (6, .long (lN (nb xs 8 8))), (5, .int (nI (sqHL (xs.getD 7 0)))), (4, .int (nI (sqTF (pkT xs) (pkL xs)))), (3, .int (bI (hasPB xs))), (0, .ref (tw_ad G 8)), (1, .ref (tw_ad G 1)), (2, .ref (tw_ad G q))] 139 []
      refine TW.sS (S' := tw_uR S q ((([] : List Nat) ++ [(sqB1 (sqTF (pkT xs) (pkL xs)) (sqHL (xs.getD 7 0)) false) % 256]).take (tw_cap q))) (by rw [tw_uR_uR, tk_tk]) ?_
      refine tw_aload_n C dX8_write_139 12 rfl ?_
      refine tw_iload C dX8_write_140 0 rfl ?_
      refine tn_if_eq C dX8_write_142 (tgt := 151) (by decide) (by omega) (fun cc => ?_) (fun cc => ?_)
      · exact absurd cc (by omega)
      refine tw_sipush C dX8_write_145 (v := nI 128) (by decide) ?_
      refine tw_goto C dX8_write_148 (tgt := 152) (by decide) ?_
      refine tw_iload C dX8_write_152 2 rfl ?_
      refine tw_iconst C dX8_write_154 (v := nI 4) (by decide) ?_
      refine tw_ishl C dX8_write_155 (v := nI ((mSrc K (nb xs 8 8) (nb xs 16 8)) * 16)) (nI_shl _ 4 (by decide)) ?_
      refine tw_ior C dX8_write_156 (v := nI (128 ||| ((mSrc K (nb xs 8 8) (nb xs 16 8)) * 16))) (nI_or _ _) ?_
      refine tw_iload C dX8_write_157 1 rfl ?_
      refine tw_ior C dX8_write_159 (v := nI (128 + (mSrc K (nb xs 8 8) (nb xs 16 8)) * 16 + mGoal K (nb xs 24 8) (nb xs 32 8))) (by rw [nI_or, (sqB2_or _ (by omega) _ (by omega)).1]) ?_
      refine tw_callV (As := [.int (nI (128 + (mSrc K (nb xs 8 8) (nb xs 16 8)) * 16 + mGoal K (nb xs 24 8) (nb xs 32 8)))]) (rest := []) C N (e_X7_add hG hq (xs := (([] : List Nat) ++ [(sqB1 (sqTF (pkT xs) (pkL xs)) (sqHL (xs.getD 7 0)) false) % 256]).take (tw_cap q)) (tq_uR_same _ _ _) (x := 128 + (mSrc K (nb xs 8 8) (nb xs 16 8)) * 16 + mGoal K (nb xs 24 8) (nb xs 32 8))) mm_X7_add wd_357 rfl (hG _ (tw_row_lt hq).2) (tw_row_sh hq) rfl (by decide) rfl (Nat.le_of_ble_eq_true rfl) dX8_write_160 ?_
      rintro _ _ rfl
      show TW G X (tw_uR (tw_uR S q ((([] : List Nat) ++ [(sqB1 (sqTF (pkT xs) (pkL xs)) (sqHL (xs.getD 7 0)) false) % 256]).take (tw_cap q))) q ((((([] : List Nat) ++ [(sqB1 (sqTF (pkT xs) (pkL xs)) (sqHL (xs.getD 7 0)) false) % 256]).take (tw_cap q)) ++ [(128 + (mSrc K (nb xs 8 8) (nb xs 16 8)) * 16 + mGoal K (nb xs 24 8) (nb xs 32 8)) % 256]).take (tw_cap q))) [(16, .int (nI ((16 * (ctxN K (mSrc K (nb xs 8 8) (nb xs 16 8)) (nb xs 8 8))) + (ctxN K (mGoal K (nb xs 24 8) (nb xs 32 8)) (nb xs 24 8))))), (15, .int (nI (mGoal K (nb xs 24 8) (nb xs 32 8)))), (14, .int (nI (mSrc K (nb xs 8 8) (nb xs 16 8)))), (12, .long (lN (nb xs 32 8))), (10, .long (lN (nb xs 24 8))), (8, .long (lN (nb xs 16 8))), (6, .long (lN (nb xs 8 8))), (5, .int (nI (sqHL (xs.getD 7 0)))), (4, .int (nI (sqTF (pkT xs) (pkL xs)))), (3, .int (bI (hasPB xs))), (0, .ref (tw_ad G 8)), (1, .ref (tw_ad G 1)), (2, .ref (tw_ad G q))] 163 []
      refine TW.sS (S' := tw_uR S q ((([] : List Nat) ++ [(sqB1 (sqTF (pkT xs) (pkL xs)) (sqHL (xs.getD 7 0)) false) % 256] ++ [(128 + (mSrc K (nb xs 8 8) (nb xs 16 8)) * 16 + mGoal K (nb xs 24 8) (nb xs 32 8)) % 256]).take (tw_cap q))) (by rw [tw_uR_uR, tk_tk]) ?_
      refine tw_iload C dX8_write_163 0 rfl ?_
      refine tn_if_eq C dX8_write_165 (tgt := 174) (by decide) (by omega) (fun cc => ?_) (fun cc => ?_)
      · exact absurd cc (by omega)
      refine tw_aload_n C dX8_write_168 12 rfl ?_
      refine tw_iload C dX8_write_169 0 rfl ?_
      refine tw_callV (As := [.int (nI ((16 * (ctxN K (mSrc K (nb xs 8 8) (nb xs 16 8)) (nb xs 8 8))) + (ctxN K (mGoal K (nb xs 24 8) (nb xs 32 8)) (nb xs 24 8))))]) (rest := []) C N (e_X7_add hG hq (xs := (([] : List Nat) ++ [(sqB1 (sqTF (pkT xs) (pkL xs)) (sqHL (xs.getD 7 0)) false) % 256] ++ [(128 + (mSrc K (nb xs 8 8) (nb xs 16 8)) * 16 + mGoal K (nb xs 24 8) (nb xs 32 8)) % 256]).take (tw_cap q)) (tq_uR_same _ _ _) (x := (16 * (ctxN K (mSrc K (nb xs 8 8) (nb xs 16 8)) (nb xs 8 8))) + (ctxN K (mGoal K (nb xs 24 8) (nb xs 32 8)) (nb xs 24 8)))) mm_X7_add wd_357 rfl (hG _ (tw_row_lt hq).2) (tw_row_sh hq) rfl (by decide) rfl (Nat.le_of_ble_eq_true rfl) dX8_write_171 ?_
      rintro _ _ rfl
      show TW G X (tw_uR (tw_uR S q ((([] : List Nat) ++ [(sqB1 (sqTF (pkT xs) (pkL xs)) (sqHL (xs.getD 7 0)) false) % 256] ++ [(128 + (mSrc K (nb xs 8 8) (nb xs 16 8)) * 16 + mGoal K (nb xs 24 8) (nb xs 32 8)) % 256]).take (tw_cap q))) q ((((([] : List Nat) ++ [(sqB1 (sqTF (pkT xs) (pkL xs)) (sqHL (xs.getD 7 0)) false) % 256] ++ [(128 + (mSrc K (nb xs 8 8) (nb xs 16 8)) * 16 + mGoal K (nb xs 24 8) (nb xs 32 8)) % 256]).take (tw_cap q)) ++ [((16 * (ctxN K (mSrc K (nb xs 8 8) (nb xs 16 8)) (nb xs 8 8))) + (ctxN K (mGoal K (nb xs 24 8) (nb xs 32 8)) (nb xs 24 8))) % 256]).take (tw_cap q))) [(16, .int (nI ((16 * (ctxN K (mSrc K (nb xs 8 8) (nb xs 16 8)) (nb xs 8 8))) + (ctxN K (mGoal K (nb xs 24 8) (nb xs 32 8)) (nb xs 24 8))))), (15, .int (nI (mGoal K (nb xs 24 8) (nb xs 32 8)))), (14, .int (nI (mSrc K (nb xs 8 8) (nb xs 16 8)))), (12, .long (lN (nb xs 32 8))), (10, .long (lN (nb xs 24 8))), (8, .long (lN (nb xs 16 8))), (6, .long (lN (nb xs 8 8))), (5, .int (nI (sqHL (xs.getD 7 0)))), (4, .int (nI (sqTF (pkT xs) (pkL xs)))), (3, .int (bI (hasPB xs))), (0, .ref (tw_ad G 8)), (1, .ref (tw_ad G 1)), (2, .ref (tw_ad G q))] 174 []
      refine TW.sS (S' := tw_uR S q ((([] : List Nat) ++ [(sqB1 (sqTF (pkT xs) (pkL xs)) (sqHL (xs.getD 7 0)) false) % 256] ++ [(128 + (mSrc K (nb xs 8 8) (nb xs 16 8)) * 16 + mGoal K (nb xs 24 8) (nb xs 32 8)) % 256] ++ [((16 * (ctxN K (mSrc K (nb xs 8 8) (nb xs 16 8)) (nb xs 8 8))) + (ctxN K (mGoal K (nb xs 24 8) (nb xs 32 8)) (nb xs 24 8))) % 256]).take (tw_cap q))) (by rw [tw_uR_uR, tk_tk]) ?_
      refine tw_aload_n C dX8_write_174 11 rfl ?_
      refine tw_iload C dX8_write_175 8 rfl ?_
      refine tw_aload_n C dX8_write_177 12 rfl ?_
      refine tw_callS (As := [.ref (tw_ad G 1), .int (nI (sqTF (pkT xs) (pkL xs))), .ref (tw_ad G q)]) (rest := []) C N (c_X8_writeTraffic hG hq hq1 (xs := xs) (ys := (([] : List Nat) ++ [(sqB1 (sqTF (pkT xs) (pkL xs)) (sqHL (xs.getD 7 0)) false) % 256] ++ [(128 + (mSrc K (nb xs 8 8) (nb xs 16 8)) * 16 + mGoal K (nb xs 24 8) (nb xs 32 8)) % 256] ++ [((16 * (ctxN K (mSrc K (nb xs 8 8) (nb xs 16 8)) (nb xs 8 8))) + (ctxN K (mGoal K (nb xs 24 8) (nb xs 32 8)) (nb xs 24 8))) % 256]).take (tw_cap q)) ((tq_uR_ne _ _ hq1).trans hx) (tq_uR_same _ _ _) (tf := sqTF (pkT xs) (pkL xs)) (sqTF_lt _ _) sqTF_1) mm_X8_writeTraffic wd_358 rfl (by decide) rfl (Nat.le_of_ble_eq_true rfl) dX8_write_178 ?_
      rintro _ _ rfl
      show TW G X (tw_uR (tw_uR S q ((([] : List Nat) ++ [(sqB1 (sqTF (pkT xs) (pkL xs)) (sqHL (xs.getD 7 0)) false) % 256] ++ [(128 + (mSrc K (nb xs 8 8) (nb xs 16 8)) * 16 + mGoal K (nb xs 24 8) (nb xs 32 8)) % 256] ++ [((16 * (ctxN K (mSrc K (nb xs 8 8) (nb xs 16 8)) (nb xs 8 8))) + (ctxN K (mGoal K (nb xs 24 8) (nb xs 32 8)) (nb xs 24 8))) % 256]).take (tw_cap q))) q ((((([] : List Nat) ++ [(sqB1 (sqTF (pkT xs) (pkL xs)) (sqHL (xs.getD 7 0)) false) % 256] ++ [(128 + (mSrc K (nb xs 8 8) (nb xs 16 8)) * 16 + mGoal K (nb xs 24 8) (nb xs 32 8)) % 256] ++ [((16 * (ctxN K (mSrc K (nb xs 8 8) (nb xs 16 8)) (nb xs 8 8))) + (ctxN K (mGoal K (nb xs 24 8) (nb xs 32 8)) (nb xs 24 8))) % 256]).take (tw_cap q)) ++ sqTr (sqTF (pkT xs) (pkL xs)) (pkT xs) (pkL xs)).take (tw_cap q))) [(16, .int (nI ((16 * (ctxN K (mSrc K (nb xs 8 8) (nb xs 16 8)) (nb xs 8 8))) + (ctxN K (mGoal K (nb xs 24 8) (nb xs 32 8)) (nb xs 24 8))))), (15, .int (nI (mGoal K (nb xs 24 8) (nb xs 32 8)))), (14, .int (nI (mSrc K (nb xs 8 8) (nb xs 16 8)))), (12, .long (lN (nb xs 32 8))), (10, .long (lN (nb xs 24 8))), (8, .long (lN (nb xs 16 8))), (6, .long (lN (nb xs 8 8))), (5, .int (nI (sqHL (xs.getD 7 0)))), (4, .int (nI (sqTF (pkT xs) (pkL xs)))), (3, .int (bI (hasPB xs))), (0, .ref (tw_ad G 8)), (1, .ref (tw_ad G 1)), (2, .ref (tw_ad G q))] 181 []
      refine TW.sS (S' := tw_uR S q ((([] : List Nat) ++ [(sqB1 (sqTF (pkT xs) (pkL xs)) (sqHL (xs.getD 7 0)) false) % 256] ++ [(128 + (mSrc K (nb xs 8 8) (nb xs 16 8)) * 16 + mGoal K (nb xs 24 8) (nb xs 32 8)) % 256] ++ [((16 * (ctxN K (mSrc K (nb xs 8 8) (nb xs 16 8)) (nb xs 8 8))) + (ctxN K (mGoal K (nb xs 24 8) (nb xs 32 8)) (nb xs 24 8))) % 256] ++ sqTr (sqTF (pkT xs) (pkL xs)) (pkT xs) (pkL xs)).take (tw_cap q))) (by rw [tw_uR_uR, tk_tk]) ?_
      refine tw_iload_n C dX8_write_181 9 rfl ?_
      refine tb_if_ne C dX8_write_182 (tgt := 195) (by decide) (fun cb => ?_) (fun cb => ?_)
      · exact absurd cb (by simp [hpb])
      refine tw_aload_n C dX8_write_185 12 rfl ?_
      refine tw_aload_n C dX8_write_186 11 rfl ?_
      refine tw_bipush C dX8_write_187 (v := nI 6) (by decide) ?_
      refine tw_callV (As := [.int (nI 6)]) (rest := [.ref (tw_ad G q)]) C N (e_X7_at hG tw_row1 (xs := xs) ((tq_uR_ne _ _ hq1).trans hx) (i := 6) (by omega)) mm_X7_at wd_314 rfl (hG 1 (by decide)) sh_1 rfl (by decide) rfl (Nat.le_of_ble_eq_true rfl) dX8_write_189 ?_
      rintro _ _ ⟨rfl, rfl⟩
      show TW G X (tw_uR S q ((([] : List Nat) ++ [(sqB1 (sqTF (pkT xs) (pkL xs)) (sqHL (xs.getD 7 0)) false) % 256] ++ [(128 + (mSrc K (nb xs 8 8) (nb xs 16 8)) * 16 + mGoal K (nb xs 24 8) (nb xs 32 8)) % 256] ++ [((16 * (ctxN K (mSrc K (nb xs 8 8) (nb xs 16 8)) (nb xs 8 8))) + (ctxN K (mGoal K (nb xs 24 8) (nb xs 32 8)) (nb xs 24 8))) % 256] ++ sqTr (sqTF (pkT xs) (pkL xs)) (pkT xs) (pkL xs)).take (tw_cap q))) [(16, .int (nI ((16 * (ctxN K (mSrc K (nb xs 8 8) (nb xs 16 8)) (nb xs 8 8))) + (ctxN K (mGoal K (nb xs 24 8) (nb xs 32 8)) (nb xs 24 8))))), (15, .int (nI (mGoal K (nb xs 24 8) (nb xs 32 8)))), (14, .int (nI (mSrc K (nb xs 8 8) (nb xs 16 8)))), (12, .long (lN (nb xs 32 8))), (10, .long (lN (nb xs 24 8))), (8, .long (lN (nb xs 16 8))), (6, .long (lN (nb xs 8 8))), (5, .int (nI (sqHL (xs.getD 7 0)))), (4, .int (nI (sqTF (pkT xs) (pkL xs)))), (3, .int (bI (hasPB xs))), (0, .ref (tw_ad G 8)), (1, .ref (tw_ad G 1)), (2, .ref (tw_ad G q))] 192 [.int (nI (xs.getD 6 0)), .ref (tw_ad G q)]
      refine tw_callV (As := [.int (nI (xs.getD 6 0))]) (rest := []) C N (e_X7_add hG hq (xs := (([] : List Nat) ++ [(sqB1 (sqTF (pkT xs) (pkL xs)) (sqHL (xs.getD 7 0)) false) % 256] ++ [(128 + (mSrc K (nb xs 8 8) (nb xs 16 8)) * 16 + mGoal K (nb xs 24 8) (nb xs 32 8)) % 256] ++ [((16 * (ctxN K (mSrc K (nb xs 8 8) (nb xs 16 8)) (nb xs 8 8))) + (ctxN K (mGoal K (nb xs 24 8) (nb xs 32 8)) (nb xs 24 8))) % 256] ++ sqTr (sqTF (pkT xs) (pkL xs)) (pkT xs) (pkL xs)).take (tw_cap q)) (tq_uR_same _ _ _) (x := xs.getD 6 0)) mm_X7_add wd_357 rfl (hG _ (tw_row_lt hq).2) (tw_row_sh hq) rfl (by decide) rfl (Nat.le_of_ble_eq_true rfl) dX8_write_192 ?_
      rintro _ _ rfl
      show TW G X (tw_uR (tw_uR S q ((([] : List Nat) ++ [(sqB1 (sqTF (pkT xs) (pkL xs)) (sqHL (xs.getD 7 0)) false) % 256] ++ [(128 + (mSrc K (nb xs 8 8) (nb xs 16 8)) * 16 + mGoal K (nb xs 24 8) (nb xs 32 8)) % 256] ++ [((16 * (ctxN K (mSrc K (nb xs 8 8) (nb xs 16 8)) (nb xs 8 8))) + (ctxN K (mGoal K (nb xs 24 8) (nb xs 32 8)) (nb xs 24 8))) % 256] ++ sqTr (sqTF (pkT xs) (pkL xs)) (pkT xs) (pkL xs)).take (tw_cap q))) q ((((([] : List Nat) ++ [(sqB1 (sqTF (pkT xs) (pkL xs)) (sqHL (xs.getD 7 0)) false) % 256] ++ [(128 + (mSrc K (nb xs 8 8) (nb xs 16 8)) * 16 + mGoal K (nb xs 24 8) (nb xs 32 8)) % 256] ++ [((16 * (ctxN K (mSrc K (nb xs 8 8) (nb xs 16 8)) (nb xs 8 8))) + (ctxN K (mGoal K (nb xs 24 8) (nb xs 32 8)) (nb xs 24 8))) % 256] ++ sqTr (sqTF (pkT xs) (pkL xs)) (pkT xs) (pkL xs)).take (tw_cap q)) ++ [(xs.getD 6 0) % 256]).take (tw_cap q))) [(16, .int (nI ((16 * (ctxN K (mSrc K (nb xs 8 8) (nb xs 16 8)) (nb xs 8 8))) + (ctxN K (mGoal K (nb xs 24 8) (nb xs 32 8)) (nb xs 24 8))))), (15, .int (nI (mGoal K (nb xs 24 8) (nb xs 32 8)))), (14, .int (nI (mSrc K (nb xs 8 8) (nb xs 16 8)))), (12, .long (lN (nb xs 32 8))), (10, .long (lN (nb xs 24 8))), (8, .long (lN (nb xs 16 8))), (6, .long (lN (nb xs 8 8))), (5, .int (nI (sqHL (xs.getD 7 0)))), (4, .int (nI (sqTF (pkT xs) (pkL xs)))), (3, .int (bI (hasPB xs))), (0, .ref (tw_ad G 8)), (1, .ref (tw_ad G 1)), (2, .ref (tw_ad G q))] 195 []
      refine TW.sS (S' := tw_uR S q ((([] : List Nat) ++ [(sqB1 (sqTF (pkT xs) (pkL xs)) (sqHL (xs.getD 7 0)) false) % 256] ++ [(128 + (mSrc K (nb xs 8 8) (nb xs 16 8)) * 16 + mGoal K (nb xs 24 8) (nb xs 32 8)) % 256] ++ [((16 * (ctxN K (mSrc K (nb xs 8 8) (nb xs 16 8)) (nb xs 8 8))) + (ctxN K (mGoal K (nb xs 24 8) (nb xs 32 8)) (nb xs 24 8))) % 256] ++ sqTr (sqTF (pkT xs) (pkL xs)) (pkT xs) (pkL xs) ++ [(xs.getD 6 0) % 256]).take (tw_cap q))) (by rw [tw_uR_uR, tk_tk]) ?_
      refine tw_iload C dX8_write_195 7 rfl ?_
      refine tn_if_ne C dX8_write_197 (tgt := 210) (by decide) (by omega) (fun ch => ?_) (fun ch => ?_)
      · skip
        refine tw_iload C dX8_write_210 2 rfl ?_
        refine tw_lload C dX8_write_212 6 rfl ?_
        refine tw_lload C dX8_write_214 5 rfl ?_
        refine tw_aload_n C dX8_write_216 12 rfl ?_
        refine tw_callS (As := [.int (nI (mSrc K (nb xs 8 8) (nb xs 16 8))), .long (lN (nb xs 8 8)), .long (lN (nb xs 16 8)), .ref (tw_ad G q)]) (rest := []) C N (c_X8_writeAddress hG hq (ys := (([] : List Nat) ++ [(sqB1 (sqTF (pkT xs) (pkL xs)) (sqHL (xs.getD 7 0)) false) % 256] ++ [(128 + (mSrc K (nb xs 8 8) (nb xs 16 8)) * 16 + mGoal K (nb xs 24 8) (nb xs 32 8)) % 256] ++ [((16 * (ctxN K (mSrc K (nb xs 8 8) (nb xs 16 8)) (nb xs 8 8))) + (ctxN K (mGoal K (nb xs 24 8) (nb xs 32 8)) (nb xs 24 8))) % 256] ++ sqTr (sqTF (pkT xs) (pkL xs)) (pkT xs) (pkL xs) ++ [(xs.getD 6 0) % 256]).take (tw_cap q)) (tq_uR_same _ _ _) (m := mSrc K (nb xs 8 8) (nb xs 16 8)) (f := nb xs 8 8) (l := nb xs 16 8) (by omega) (by omega) (by omega)) mm_X8_writeAddress wd_362 rfl (by decide) rfl (Nat.le_of_ble_eq_true rfl) dX8_write_217 ?_
        rintro _ _ rfl
        show TW G X (tw_uR (tw_uR S q ((([] : List Nat) ++ [(sqB1 (sqTF (pkT xs) (pkL xs)) (sqHL (xs.getD 7 0)) false) % 256] ++ [(128 + (mSrc K (nb xs 8 8) (nb xs 16 8)) * 16 + mGoal K (nb xs 24 8) (nb xs 32 8)) % 256] ++ [((16 * (ctxN K (mSrc K (nb xs 8 8) (nb xs 16 8)) (nb xs 8 8))) + (ctxN K (mGoal K (nb xs 24 8) (nb xs 32 8)) (nb xs 24 8))) % 256] ++ sqTr (sqTF (pkT xs) (pkL xs)) (pkT xs) (pkL xs) ++ [(xs.getD 6 0) % 256]).take (tw_cap q))) q ((((([] : List Nat) ++ [(sqB1 (sqTF (pkT xs) (pkL xs)) (sqHL (xs.getD 7 0)) false) % 256] ++ [(128 + (mSrc K (nb xs 8 8) (nb xs 16 8)) * 16 + mGoal K (nb xs 24 8) (nb xs 32 8)) % 256] ++ [((16 * (ctxN K (mSrc K (nb xs 8 8) (nb xs 16 8)) (nb xs 8 8))) + (ctxN K (mGoal K (nb xs 24 8) (nb xs 32 8)) (nb xs 24 8))) % 256] ++ sqTr (sqTF (pkT xs) (pkL xs)) (pkT xs) (pkL xs) ++ [(xs.getD 6 0) % 256]).take (tw_cap q)) ++ sqAd (mSrc K (nb xs 8 8) (nb xs 16 8)) (nb xs 8 8) (nb xs 16 8)).take (tw_cap q))) [(16, .int (nI ((16 * (ctxN K (mSrc K (nb xs 8 8) (nb xs 16 8)) (nb xs 8 8))) + (ctxN K (mGoal K (nb xs 24 8) (nb xs 32 8)) (nb xs 24 8))))), (15, .int (nI (mGoal K (nb xs 24 8) (nb xs 32 8)))), (14, .int (nI (mSrc K (nb xs 8 8) (nb xs 16 8)))), (12, .long (lN (nb xs 32 8))), (10, .long (lN (nb xs 24 8))), (8, .long (lN (nb xs 16 8))), (6, .long (lN (nb xs 8 8))), (5, .int (nI (sqHL (xs.getD 7 0)))), (4, .int (nI (sqTF (pkT xs) (pkL xs)))), (3, .int (bI (hasPB xs))), (0, .ref (tw_ad G 8)), (1, .ref (tw_ad G 1)), (2, .ref (tw_ad G q))] 220 []
        refine TW.sS (S' := tw_uR S q ((([] : List Nat) ++ [(sqB1 (sqTF (pkT xs) (pkL xs)) (sqHL (xs.getD 7 0)) false) % 256] ++ [(128 + (mSrc K (nb xs 8 8) (nb xs 16 8)) * 16 + mGoal K (nb xs 24 8) (nb xs 32 8)) % 256] ++ [((16 * (ctxN K (mSrc K (nb xs 8 8) (nb xs 16 8)) (nb xs 8 8))) + (ctxN K (mGoal K (nb xs 24 8) (nb xs 32 8)) (nb xs 24 8))) % 256] ++ sqTr (sqTF (pkT xs) (pkL xs)) (pkT xs) (pkL xs) ++ [(xs.getD 6 0) % 256] ++ sqAd (mSrc K (nb xs 8 8) (nb xs 16 8)) (nb xs 8 8) (nb xs 16 8)).take (tw_cap q))) (by rw [tw_uR_uR, tk_tk]) ?_
        refine tw_iload C dX8_write_220 1 rfl ?_
        refine tw_lload C dX8_write_222 4 rfl ?_
        refine tw_lload C dX8_write_224 3 rfl ?_
        refine tw_aload_n C dX8_write_226 12 rfl ?_
        refine tw_callS (As := [.int (nI (mGoal K (nb xs 24 8) (nb xs 32 8))), .long (lN (nb xs 24 8)), .long (lN (nb xs 32 8)), .ref (tw_ad G q)]) (rest := []) C N (c_X8_writeAddress hG hq (ys := (([] : List Nat) ++ [(sqB1 (sqTF (pkT xs) (pkL xs)) (sqHL (xs.getD 7 0)) false) % 256] ++ [(128 + (mSrc K (nb xs 8 8) (nb xs 16 8)) * 16 + mGoal K (nb xs 24 8) (nb xs 32 8)) % 256] ++ [((16 * (ctxN K (mSrc K (nb xs 8 8) (nb xs 16 8)) (nb xs 8 8))) + (ctxN K (mGoal K (nb xs 24 8) (nb xs 32 8)) (nb xs 24 8))) % 256] ++ sqTr (sqTF (pkT xs) (pkL xs)) (pkT xs) (pkL xs) ++ [(xs.getD 6 0) % 256] ++ sqAd (mSrc K (nb xs 8 8) (nb xs 16 8)) (nb xs 8 8) (nb xs 16 8)).take (tw_cap q)) (tq_uR_same _ _ _) (m := mGoal K (nb xs 24 8) (nb xs 32 8)) (f := nb xs 24 8) (l := nb xs 32 8) (by omega) (by omega) (by omega)) mm_X8_writeAddress wd_362 rfl (by decide) rfl (Nat.le_of_ble_eq_true rfl) dX8_write_227 ?_
        rintro _ _ rfl
        show TW G X (tw_uR (tw_uR S q ((([] : List Nat) ++ [(sqB1 (sqTF (pkT xs) (pkL xs)) (sqHL (xs.getD 7 0)) false) % 256] ++ [(128 + (mSrc K (nb xs 8 8) (nb xs 16 8)) * 16 + mGoal K (nb xs 24 8) (nb xs 32 8)) % 256] ++ [((16 * (ctxN K (mSrc K (nb xs 8 8) (nb xs 16 8)) (nb xs 8 8))) + (ctxN K (mGoal K (nb xs 24 8) (nb xs 32 8)) (nb xs 24 8))) % 256] ++ sqTr (sqTF (pkT xs) (pkL xs)) (pkT xs) (pkL xs) ++ [(xs.getD 6 0) % 256] ++ sqAd (mSrc K (nb xs 8 8) (nb xs 16 8)) (nb xs 8 8) (nb xs 16 8)).take (tw_cap q))) q ((((([] : List Nat) ++ [(sqB1 (sqTF (pkT xs) (pkL xs)) (sqHL (xs.getD 7 0)) false) % 256] ++ [(128 + (mSrc K (nb xs 8 8) (nb xs 16 8)) * 16 + mGoal K (nb xs 24 8) (nb xs 32 8)) % 256] ++ [((16 * (ctxN K (mSrc K (nb xs 8 8) (nb xs 16 8)) (nb xs 8 8))) + (ctxN K (mGoal K (nb xs 24 8) (nb xs 32 8)) (nb xs 24 8))) % 256] ++ sqTr (sqTF (pkT xs) (pkL xs)) (pkT xs) (pkL xs) ++ [(xs.getD 6 0) % 256] ++ sqAd (mSrc K (nb xs 8 8) (nb xs 16 8)) (nb xs 8 8) (nb xs 16 8)).take (tw_cap q)) ++ sqAd (mGoal K (nb xs 24 8) (nb xs 32 8)) (nb xs 24 8) (nb xs 32 8)).take (tw_cap q))) [(16, .int (nI ((16 * (ctxN K (mSrc K (nb xs 8 8) (nb xs 16 8)) (nb xs 8 8))) + (ctxN K (mGoal K (nb xs 24 8) (nb xs 32 8)) (nb xs 24 8))))), (15, .int (nI (mGoal K (nb xs 24 8) (nb xs 32 8)))), (14, .int (nI (mSrc K (nb xs 8 8) (nb xs 16 8)))), (12, .long (lN (nb xs 32 8))), (10, .long (lN (nb xs 24 8))), (8, .long (lN (nb xs 16 8))), (6, .long (lN (nb xs 8 8))), (5, .int (nI (sqHL (xs.getD 7 0)))), (4, .int (nI (sqTF (pkT xs) (pkL xs)))), (3, .int (bI (hasPB xs))), (0, .ref (tw_ad G 8)), (1, .ref (tw_ad G 1)), (2, .ref (tw_ad G q))] 230 []
        refine TW.sS (S' := tw_uR S q ((([] : List Nat) ++ [(sqB1 (sqTF (pkT xs) (pkL xs)) (sqHL (xs.getD 7 0)) false) % 256] ++ [(128 + (mSrc K (nb xs 8 8) (nb xs 16 8)) * 16 + mGoal K (nb xs 24 8) (nb xs 32 8)) % 256] ++ [((16 * (ctxN K (mSrc K (nb xs 8 8) (nb xs 16 8)) (nb xs 8 8))) + (ctxN K (mGoal K (nb xs 24 8) (nb xs 32 8)) (nb xs 24 8))) % 256] ++ sqTr (sqTF (pkT xs) (pkL xs)) (pkT xs) (pkL xs) ++ [(xs.getD 6 0) % 256] ++ sqAd (mSrc K (nb xs 8 8) (nb xs 16 8)) (nb xs 8 8) (nb xs 16 8) ++ sqAd (mGoal K (nb xs 24 8) (nb xs 32 8)) (nb xs 24 8) (nb xs 32 8)).take (tw_cap q))) (by rw [tw_uR_uR, tk_tk]) ?_
        refine tw_iload_n C dX8_write_230 9 rfl ?_
        refine tb_if_eq C dX8_write_231 (tgt := 239) (by decide) (fun cb => ?_) (fun cb => ?_)
        · skip
          refine TW.sS (S' := tw_uR S q ((sqHd K xs).take (tw_cap q))) (by congr 2; simp only [sqHd, sqB2, hpb, if_neg (Nat.pos_iff_ne_zero.mp hc0), if_neg (Nat.pos_iff_ne_zero.mp hl0), hm1, hm2, hm2z, hm3, hm6, hm7, if_true, if_false, Bool.false_eq_true, List.nil_append, List.append_nil, List.append_assoc]) ?_
          refine tw_aload_n C dX8_write_239 12 rfl ?_
          refine tw_callV (As := []) (rest := []) C N (e_X7_length hG hq (xs := (sqHd K xs).take (tw_cap q)) (tq_uR_same _ _ _) ) mm_X7_length wd_372 rfl (hG _ (tw_row_lt hq).2) (tw_row_sh hq) rfl (by decide) rfl (Nat.le_of_ble_eq_true rfl) dX8_write_240 ?_
          rintro _ _ ⟨rfl, rfl⟩
          show TW G X (tw_uR S q ((sqHd K xs).take (tw_cap q))) [(16, .int (nI ((16 * (ctxN K (mSrc K (nb xs 8 8) (nb xs 16 8)) (nb xs 8 8))) + (ctxN K (mGoal K (nb xs 24 8) (nb xs 32 8)) (nb xs 24 8))))), (15, .int (nI (mGoal K (nb xs 24 8) (nb xs 32 8)))), (14, .int (nI (mSrc K (nb xs 8 8) (nb xs 16 8)))), (12, .long (lN (nb xs 32 8))), (10, .long (lN (nb xs 24 8))), (8, .long (lN (nb xs 16 8))), (6, .long (lN (nb xs 8 8))), (5, .int (nI (sqHL (xs.getD 7 0)))), (4, .int (nI (sqTF (pkT xs) (pkL xs)))), (3, .int (bI (hasPB xs))), (0, .ref (tw_ad G 8)), (1, .ref (tw_ad G 1)), (2, .ref (tw_ad G q))] 243 [.int (nI (((sqHd K xs).take (tw_cap q)).length))]
          refine tw_istore (L' := [(17, .int (nI (((sqHd K xs).take (tw_cap q)).length))), (16, .int (nI ((16 * (ctxN K (mSrc K (nb xs 8 8) (nb xs 16 8)) (nb xs 8 8))) + (ctxN K (mGoal K (nb xs 24 8) (nb xs 32 8)) (nb xs 24 8))))), (15, .int (nI (mGoal K (nb xs 24 8) (nb xs 32 8)))), (14, .int (nI (mSrc K (nb xs 8 8) (nb xs 16 8)))), (12, .long (lN (nb xs 32 8))), (10, .long (lN (nb xs 24 8))), (8, .long (lN (nb xs 16 8))), (6, .long (lN (nb xs 8 8))), (5, .int (nI (sqHL (xs.getD 7 0)))), (4, .int (nI (sqTF (pkT xs) (pkL xs)))), (3, .int (bI (hasPB xs))), (0, .ref (tw_ad G 8)), (1, .ref (tw_ad G 1)), (2, .ref (tw_ad G q))]) C N dX8_write_243 (i := 17) (by decide) rfl ?_
          refine tw_aload_n C dX8_write_245 13 rfl ?_
          refine tw_aload_n C dX8_write_246 12 rfl ?_
          refine tw_aload_n C dX8_write_247 12 rfl ?_
          refine tw_callS (As := [.ref (tw_ad G 1)]) (rest := [.ref (tw_ad G 1), .ref (tw_ad G q)]) C N (c_X5_headOf hG tw_row1 (xs := xs) ((tq_uR_ne _ _ hq1).trans hx)) mm_X5_headOf wd_373 rfl (by decide) rfl (Nat.le_of_ble_eq_true rfl) dX8_write_248 ?_
          rintro _ _ ⟨rfl, rfl⟩
          show TW G X (tw_uR S q ((sqHd K xs).take (tw_cap q))) [(17, .int (nI (((sqHd K xs).take (tw_cap q)).length))), (16, .int (nI ((16 * (ctxN K (mSrc K (nb xs 8 8) (nb xs 16 8)) (nb xs 8 8))) + (ctxN K (mGoal K (nb xs 24 8) (nb xs 32 8)) (nb xs 24 8))))), (15, .int (nI (mGoal K (nb xs 24 8) (nb xs 32 8)))), (14, .int (nI (mSrc K (nb xs 8 8) (nb xs 16 8)))), (12, .long (lN (nb xs 32 8))), (10, .long (lN (nb xs 24 8))), (8, .long (lN (nb xs 16 8))), (6, .long (lN (nb xs 8 8))), (5, .int (nI (sqHL (xs.getD 7 0)))), (4, .int (nI (sqTF (pkT xs) (pkL xs)))), (3, .int (bI (hasPB xs))), (0, .ref (tw_ad G 8)), (1, .ref (tw_ad G 1)), (2, .ref (tw_ad G q))] 251 [.int (nI (pkH xs)), .ref (tw_ad G 1), .ref (tw_ad G q)]
          refine tw_aload_n C dX8_write_251 12 rfl ?_
          refine tw_callV (As := []) (rest := [.int (nI (pkH xs)), .ref (tw_ad G 1), .ref (tw_ad G q)]) C N (e_X7_length hG tw_row1 (xs := xs) ((tq_uR_ne _ _ hq1).trans hx) ) mm_X7_length wd_372 rfl (hG 1 (by decide)) sh_1 rfl (by decide) rfl (Nat.le_of_ble_eq_true rfl) dX8_write_252 ?_
          rintro _ _ ⟨rfl, rfl⟩
          show TW G X (tw_uR S q ((sqHd K xs).take (tw_cap q))) [(17, .int (nI (((sqHd K xs).take (tw_cap q)).length))), (16, .int (nI ((16 * (ctxN K (mSrc K (nb xs 8 8) (nb xs 16 8)) (nb xs 8 8))) + (ctxN K (mGoal K (nb xs 24 8) (nb xs 32 8)) (nb xs 24 8))))), (15, .int (nI (mGoal K (nb xs 24 8) (nb xs 32 8)))), (14, .int (nI (mSrc K (nb xs 8 8) (nb xs 16 8)))), (12, .long (lN (nb xs 32 8))), (10, .long (lN (nb xs 24 8))), (8, .long (lN (nb xs 16 8))), (6, .long (lN (nb xs 8 8))), (5, .int (nI (sqHL (xs.getD 7 0)))), (4, .int (nI (sqTF (pkT xs) (pkL xs)))), (3, .int (bI (hasPB xs))), (0, .ref (tw_ad G 8)), (1, .ref (tw_ad G 1)), (2, .ref (tw_ad G q))] 255 [.int (nI xs.length), .int (nI (pkH xs)), .ref (tw_ad G 1), .ref (tw_ad G q)]
          have hphp : pkH xs ≤ 48 := by unfold pkH; split <;> omega
          refine tw_callV (As := [.ref (tw_ad G 1), .int (nI (pkH xs)), .int (nI xs.length)]) (rest := []) C N (e_X7_addAll hG hq (xs := (sqHd K xs).take (tw_cap q)) (tq_uR_same _ _ _) tw_row1 hq1 (ys := xs) ((tq_uR_ne _ _ hq1).trans hx) (a := pkH xs) (e := xs.length) (by omega) (by omega)) mm_X7_addAll wd_377 rfl (hG _ (tw_row_lt hq).2) (tw_row_sh hq) rfl (by decide) rfl (Nat.le_of_ble_eq_true rfl) dX8_write_255 ?_
          rintro _ _ rfl
          show TW G X (tw_uR (tw_uR S q ((sqHd K xs).take (tw_cap q))) q ((((sqHd K xs).take (tw_cap q)) ++ cutD xs (pkH xs) (xs.length - (pkH xs))).take (tw_cap q))) [(17, .int (nI (((sqHd K xs).take (tw_cap q)).length))), (16, .int (nI ((16 * (ctxN K (mSrc K (nb xs 8 8) (nb xs 16 8)) (nb xs 8 8))) + (ctxN K (mGoal K (nb xs 24 8) (nb xs 32 8)) (nb xs 24 8))))), (15, .int (nI (mGoal K (nb xs 24 8) (nb xs 32 8)))), (14, .int (nI (mSrc K (nb xs 8 8) (nb xs 16 8)))), (12, .long (lN (nb xs 32 8))), (10, .long (lN (nb xs 24 8))), (8, .long (lN (nb xs 16 8))), (6, .long (lN (nb xs 8 8))), (5, .int (nI (sqHL (xs.getD 7 0)))), (4, .int (nI (sqTF (pkT xs) (pkL xs)))), (3, .int (bI (hasPB xs))), (0, .ref (tw_ad G 8)), (1, .ref (tw_ad G 1)), (2, .ref (tw_ad G q))] 258 []
          refine TW.sS (S' := tw_uR S q ((sqHd K xs ++ cutD xs (pkH xs) (xs.length - (pkH xs))).take (tw_cap q))) (by rw [tw_uR_uR, tk_tk]) ?_
          refine tw_iload C dX8_write_258 0 rfl ?_
          exact tw_ireturn C Q dX8_write_260 rfl rfl rfl ⟨by rw [List.length_take, Nat.min_eq_right (by omega)], rfl⟩
        · exact absurd cb (by simp [hpb])
      · exact absurd ch (by omega)
    · exact absurd cb (by simp [hpb])
