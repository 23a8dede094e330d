theorem c_X5_firstFour {G : tw_G} (hG : tw_cG G) {S : tw_S} {t l : Nat} (ht : t < 256) (hl : l < 1048576) : tw_M G yX5_firstFour cX5_firstFour 2 (some .long) 0 0 [.int (nI t), .int (nI l)] S ri_J (fun v S' => v = lN (ff t l) ∧ S = S') := by
  refine tw_M.of (L := [(0, .int (nI t)), (1, .int (nI l))]) (by decide) (Nat.le_of_ble_eq_true rfl) rfl (fun X C N Q => ?_)
  have C : tw_C G X cX5_firstFour RX5 := C
  refine tw_ldc2 C dX5_firstFour_0 wd_173 (w := lN 1610612736) (by decide) ?_
  refine tw_iload_n C dX5_firstFour_3 0 rfl ?_
  refine tw_i2l C dX5_firstFour_4 (v := lN t) (nI_i64 (by omega)) ?_
  refine tw_bipush C dX5_firstFour_5 (v := nI 20) (by decide) ?_
  refine tw_lshl C dX5_firstFour_7 (v := lN (t * 1048576)) (lN_shl _ 20 (by decide)) ?_
  refine tw_lor C dX5_firstFour_8 (v := lN (1610612736 ||| (t * 1048576))) (lN_or _ _) ?_
  refine tw_iload_n C dX5_firstFour_9 1 rfl ?_
  refine tw_i2l C dX5_firstFour_10 (v := lN l) (nI_i64 (by omega)) ?_
  refine tw_lor C dX5_firstFour_11 (v := lN (ff t l)) (by rw [lN_or, ff_or ht hl]) ?_
  exact tw_lreturn C Q dX5_firstFour_12 rfl rfl ⟨rfl, rfl⟩
theorem c_X5_isPacket {G : tw_G} (hG : tw_cG G) {S : tw_S} {r : Nat} (hr : tw_isRow r = true) {xs : List Nat} (hx : tw_R S r = xs) : tw_M G yX5_isPacket cX5_isPacket 2 (some .boolean) 2 46 [.ref (tw_ad G r)] S ri_I (fun v S' => v = bI (isPkB xs) ∧ S = S') := by
  refine tw_M.of (L := [(0, .ref (tw_ad G r))]) (by decide) (Nat.le_of_ble_eq_true rfl) rfl (fun X C N Q => ?_)
  have C : tw_C G X cX5_isPacket RX5 := C
  refine TW.wf (fun hwf => ?_)
  obtain ⟨hlen, hby⟩ := hwf r (hG r (tw_row_lt hr).2) hr
  have hcap := tw_row_cap hr
  rw [hx] at hlen hby
  have hn4_2 := nb_lt hby 4 2
  simp only [Nat.reducePow] at hn4_2
  have hx0 := getD_in hby 0
  refine tw_aload_n C dX5_isPacket_0 0 rfl ?_
  refine tw_callV (As := []) (rest := []) C N (e_X7_length hG (S := S) hr (xs := xs) hx ) mm_X7_length wd_199 rfl (hG _ (tw_row_lt hr).2) (tw_row_sh hr) rfl (by decide) rfl (Nat.le_of_ble_eq_true rfl) dX5_isPacket_1 ?_
  rintro _ _ ⟨rfl, rfl⟩
  show TW G X S [(0, .ref (tw_ad G r))] 4 [.int (nI xs.length)]
  refine tw_bipush C dX5_isPacket_4 (v := nI 40) (by decide) ?_
  rcases Nat.lt_or_ge xs.length 40 with hb | hb
  · skip
    refine tw_isub C dX5_isPacket_6 (v := (nI xs.length) - (nI 40)) rfl ?_
    refine tw_istore_n (L' := [(1, .int ((nI xs.length) - (nI 40))), (0, .ref (tw_ad G r))]) C N dX5_isPacket_7 rfl (by decide) rfl ?_
    refine tw_iload_n C dX5_isPacket_8 0 rfl ?_
    refine tw_if_lt C dX5_isPacket_9 (tgt := 47) (by decide) (fun c9 => ?_) (fun c9 => ?_)
    · skip
      refine tw_iconst C dX5_isPacket_47 (v := nI 0) (by decide) ?_
      exact tw_ireturn C Q dX5_isPacket_48 rfl rfl rfl ⟨bI_nf (by rw [← Bool.not_eq_true, isPkB_iff]; rintro ⟨h1, h2, h3, h4⟩; omega), rfl⟩
    · exact absurd (pk_sneg (by omega) hb) c9
  · skip
    refine tw_isub C dX5_isPacket_6 (v := nI (xs.length - 40)) (pk_sub (by omega)) ?_
    refine tw_istore_n (L' := [(1, .int (nI (xs.length - 40))), (0, .ref (tw_ad G r))]) C N dX5_isPacket_7 rfl (by decide) rfl ?_
    refine tw_iload_n C dX5_isPacket_8 0 rfl ?_
    refine tn_if_lt C dX5_isPacket_9 (tgt := 47) (by decide) (by omega) (fun c2 => ?_) (fun c2 => ?_)
    · exact absurd c2 id
    refine tw_iload_n C dX5_isPacket_12 0 rfl ?_
    refine tw_sipush C dX5_isPacket_13 (v := nI 560) (by decide) ?_
    refine tn_icmp_gt C dX5_isPacket_16 (tgt := 47) (by decide) (by omega) (by omega) (fun c3 => ?_) (fun c3 => ?_)
    · skip
      refine tw_iconst C dX5_isPacket_47 (v := nI 0) (by decide) ?_
      exact tw_ireturn C Q dX5_isPacket_48 rfl rfl rfl ⟨bI_nf (by rw [← Bool.not_eq_true, isPkB_iff]; rintro ⟨h1, h2, h3, h4⟩; omega), rfl⟩
    · skip
      refine tw_aload_n C dX5_isPacket_19 1 rfl ?_
      refine tw_iconst C dX5_isPacket_20 (v := nI 0) (by decide) ?_
      refine tw_callV (As := [.int (nI 0)]) (rest := []) C N (e_X7_at hG (S := S) hr (xs := xs) hx (i := 0) (by omega)) mm_X7_at wd_200 rfl (hG _ (tw_row_lt hr).2) (tw_row_sh hr) rfl (by decide) rfl (Nat.le_of_ble_eq_true rfl) dX5_isPacket_21 ?_
      rintro _ _ ⟨rfl, rfl⟩
      show TW G X S [(1, .int (nI (xs.length - 40))), (0, .ref (tw_ad G r))] 24 [.int (nI (xs.getD 0 0))]
      refine tw_iconst C dX5_isPacket_24 (v := nI 4) (by decide) ?_
      refine tw_ishr C dX5_isPacket_25 (v := nI ((xs.getD 0 0) / 16)) (nI_shr (by omega) 4 (by decide)) ?_
      refine tw_bipush C dX5_isPacket_26 (v := nI 6) (by decide) ?_
      refine tn_icmp_ne C dX5_isPacket_28 (tgt := 47) (by decide) (by omega) (by omega) (fun c5 => ?_) (fun c5 => ?_)
      · skip
        refine tw_iconst C dX5_isPacket_47 (v := nI 0) (by decide) ?_
        exact tw_ireturn C Q dX5_isPacket_48 rfl rfl rfl ⟨bI_nf (by rw [← Bool.not_eq_true, isPkB_iff]; rintro ⟨h1, h2, h3, h4⟩; omega), rfl⟩
      · skip
        refine tw_aload_n C dX5_isPacket_31 1 rfl ?_
        refine tw_iconst C dX5_isPacket_32 (v := nI 4) (by decide) ?_
        refine tw_iconst C dX5_isPacket_33 (v := nI 2) (by decide) ?_
        refine tw_callV (As := [.int (nI 4), .int (nI 2)]) (rest := []) C N (e_X7_number hG (S := S) hr (xs := xs) hx (f := 4) (i := 2) (by omega) (by omega)) mm_X7_number wd_204 rfl (hG _ (tw_row_lt hr).2) (tw_row_sh hr) rfl (by decide) rfl (Nat.le_of_ble_eq_true rfl) dX5_isPacket_34 ?_
        rintro _ _ ⟨rfl, rfl⟩
        show TW G X S [(1, .int (nI (xs.length - 40))), (0, .ref (tw_ad G r))] 37 [.long (lN (nb xs 4 2))]
        refine tw_iload_n C dX5_isPacket_37 0 rfl ?_
        refine tw_i2l C dX5_isPacket_38 (v := lN (xs.length - 40)) (nI_i64 (by omega)) ?_
        refine tw_lcmp C dX5_isPacket_39 ?_
        refine tl_if_ne C dX5_isPacket_40 (tgt := 47) (by decide) (by omega) (by omega) (fun c7 => ?_) (fun c7 => ?_)
        · skip
          refine tw_iconst C dX5_isPacket_47 (v := nI 0) (by decide) ?_
          exact tw_ireturn C Q dX5_isPacket_48 rfl rfl rfl ⟨bI_nf (by rw [← Bool.not_eq_true, isPkB_iff]; rintro ⟨h1, h2, h3, h4⟩; omega), rfl⟩
        · skip
          refine tw_iconst C dX5_isPacket_43 (v := nI 1) (by decide) ?_
          refine tw_goto C dX5_isPacket_44 (tgt := 48) (by decide) ?_
          exact tw_ireturn C Q dX5_isPacket_48 rfl rfl rfl ⟨bI_nt (by rw [isPkB_iff]; exact ⟨by omega, by omega, by omega, by omega⟩), rfl⟩
theorem c_X5_hasPorts {G : tw_G} (hG : tw_cG G) {S : tw_S} {r : Nat} (hr : tw_isRow r = true) {xs : List Nat} (hx : tw_R S r = xs) : tw_M G yX5_hasPorts cX5_hasPorts 2 (some .boolean) 2 46 [.ref (tw_ad G r)] S ri_I (fun v S' => v = bI (hasPB xs) ∧ S = S') := by
  refine tw_M.of (L := [(0, .ref (tw_ad G r))]) (by decide) (Nat.le_of_ble_eq_true rfl) rfl (fun X C N Q => ?_)
  have C : tw_C G X cX5_hasPorts RX5 := C
  refine TW.wf (fun hwf => ?_)
  obtain ⟨hlen, hby⟩ := hwf r (hG r (tw_row_lt hr).2) hr
  have hcap := tw_row_cap hr
  rw [hx] at hlen hby
  have hn44_2 := nb_lt hby 44 2
  simp only [Nat.reducePow] at hn44_2
  have hx0 := getD_in hby 6
  refine tw_aload_n C dX5_hasPorts_0 0 rfl ?_
  refine tw_callV (As := []) (rest := []) C N (e_X7_length hG (S := S) hr (xs := xs) hx ) mm_X7_length wd_199 rfl (hG _ (tw_row_lt hr).2) (tw_row_sh hr) rfl (by decide) rfl (Nat.le_of_ble_eq_true rfl) dX5_hasPorts_1 ?_
  rintro _ _ ⟨rfl, rfl⟩
  show TW G X S [(0, .ref (tw_ad G r))] 4 [.int (nI xs.length)]
  refine tw_bipush C dX5_hasPorts_4 (v := nI 40) (by decide) ?_
  rcases Nat.lt_or_ge xs.length 40 with hb | hb
  · skip
    refine tw_isub C dX5_hasPorts_6 (v := (nI xs.length) - (nI 40)) rfl ?_
    refine tw_istore_n (L' := [(1, .int ((nI xs.length) - (nI 40))), (0, .ref (tw_ad G r))]) C N dX5_hasPorts_7 rfl (by decide) rfl ?_
    refine tw_aload_n C dX5_hasPorts_8 1 rfl ?_
    refine tw_bipush C dX5_hasPorts_9 (v := nI 6) (by decide) ?_
    refine tw_callV (As := [.int (nI 6)]) (rest := []) C N (e_X7_at hG (S := S) hr (xs := xs) hx (i := 6) (by omega)) mm_X7_at wd_200 rfl (hG _ (tw_row_lt hr).2) (tw_row_sh hr) rfl (by decide) rfl (Nat.le_of_ble_eq_true rfl) dX5_hasPorts_11 ?_
    rintro _ _ ⟨rfl, rfl⟩
    show TW G X S [(1, .int ((nI xs.length) - (nI 40))), (0, .ref (tw_ad G r))] 14 [.int (nI (xs.getD 6 0))]
    refine tw_bipush C dX5_hasPorts_14 (v := nI 17) (by decide) ?_
    refine tn_icmp_ne C dX5_hasPorts_16 (tgt := 42) (by decide) (by omega) (by omega) (fun c3 => ?_) (fun c3 => ?_)
    · skip
      refine tw_iconst C dX5_hasPorts_42 (v := nI 0) (by decide) ?_
      exact tw_ireturn C Q dX5_hasPorts_43 rfl rfl rfl ⟨bI_nf (by rw [← Bool.not_eq_true, hasPB_iff]; rintro ⟨h1, h2, h3⟩; omega), rfl⟩
    · skip
      refine tw_iload_n C dX5_hasPorts_19 0 rfl ?_
      refine tw_bipush C dX5_hasPorts_20 (v := nI 8) (by decide) ?_
      refine tw_icmp_lt C dX5_hasPorts_22 (tgt := 42) (by decide) (fun c9 => ?_) (fun c9 => ?_)
      · skip
        refine tw_iconst C dX5_hasPorts_42 (v := nI 0) (by decide) ?_
        exact tw_ireturn C Q dX5_hasPorts_43 rfl rfl rfl ⟨bI_nf (by rw [← Bool.not_eq_true, hasPB_iff]; rintro ⟨h1, h2, h3⟩; omega), rfl⟩
      · exact absurd (show nI xs.length - nI 40 < nI 8 by rw [Int32.lt_iff_toInt_lt, pk_sub_toInt (by omega) (by decide), nI_toInt (by decide)]; omega) c9
  · skip
    refine tw_isub C dX5_hasPorts_6 (v := nI (xs.length - 40)) (pk_sub (by omega)) ?_
    refine tw_istore_n (L' := [(1, .int (nI (xs.length - 40))), (0, .ref (tw_ad G r))]) C N dX5_hasPorts_7 rfl (by decide) rfl ?_
    refine tw_aload_n C dX5_hasPorts_8 1 rfl ?_
    refine tw_bipush C dX5_hasPorts_9 (v := nI 6) (by decide) ?_
    refine tw_callV (As := [.int (nI 6)]) (rest := []) C N (e_X7_at hG (S := S) hr (xs := xs) hx (i := 6) (by omega)) mm_X7_at wd_200 rfl (hG _ (tw_row_lt hr).2) (tw_row_sh hr) rfl (by decide) rfl (Nat.le_of_ble_eq_true rfl) dX5_hasPorts_11 ?_
    rintro _ _ ⟨rfl, rfl⟩
    show TW G X S [(1, .int (nI (xs.length - 40))), (0, .ref (tw_ad G r))] 14 [.int (nI (xs.getD 6 0))]
    refine tw_bipush C dX5_hasPorts_14 (v := nI 17) (by decide) ?_
    refine tn_icmp_ne C dX5_hasPorts_16 (tgt := 42) (by decide) (by omega) (by omega) (fun c5 => ?_) (fun c5 => ?_)
    · skip
      refine tw_iconst C dX5_hasPorts_42 (v := nI 0) (by decide) ?_
      exact tw_ireturn C Q dX5_hasPorts_43 rfl rfl rfl ⟨bI_nf (by rw [← Bool.not_eq_true, hasPB_iff]; rintro ⟨h1, h2, h3⟩; omega), rfl⟩
    · skip
      refine tw_iload_n C dX5_hasPorts_19 0 rfl ?_
      refine tw_bipush C dX5_hasPorts_20 (v := nI 8) (by decide) ?_
      refine tn_icmp_lt C dX5_hasPorts_22 (tgt := 42) (by decide) (by omega) (by omega) (fun c6 => ?_) (fun c6 => ?_)
      · skip
        refine tw_iconst C dX5_hasPorts_42 (v := nI 0) (by decide) ?_
        exact tw_ireturn C Q dX5_hasPorts_43 rfl rfl rfl ⟨bI_nf (by rw [← Bool.not_eq_true, hasPB_iff]; rintro ⟨h1, h2, h3⟩; omega), rfl⟩
      · skip
        refine tw_aload_n C dX5_hasPorts_25 1 rfl ?_
        refine tw_bipush C dX5_hasPorts_26 (v := nI 44) (by decide) ?_
        refine tw_iconst C dX5_hasPorts_28 (v := nI 2) (by decide) ?_
        refine tw_callV (As := [.int (nI 44), .int (nI 2)]) (rest := []) C N (e_X7_number hG (S := S) hr (xs := xs) hx (f := 44) (i := 2) (by omega) (by omega)) mm_X7_number wd_204 rfl (hG _ (tw_row_lt hr).2) (tw_row_sh hr) rfl (by decide) rfl (Nat.le_of_ble_eq_true rfl) dX5_hasPorts_29 ?_
        rintro _ _ ⟨rfl, rfl⟩
        show TW G X S [(1, .int (nI (xs.length - 40))), (0, .ref (tw_ad G r))] 32 [.long (lN (nb xs 44 2))]
        refine tw_iload_n C dX5_hasPorts_32 0 rfl ?_
        refine tw_i2l C dX5_hasPorts_33 (v := lN (xs.length - 40)) (nI_i64 (by omega)) ?_
        refine tw_lcmp C dX5_hasPorts_34 ?_
        refine tl_if_ne C dX5_hasPorts_35 (tgt := 42) (by decide) (by omega) (by omega) (fun c8 => ?_) (fun c8 => ?_)
        · skip
          refine tw_iconst C dX5_hasPorts_42 (v := nI 0) (by decide) ?_
          exact tw_ireturn C Q dX5_hasPorts_43 rfl rfl rfl ⟨bI_nf (by rw [← Bool.not_eq_true, hasPB_iff]; rintro ⟨h1, h2, h3⟩; omega), rfl⟩
        · skip
          refine tw_iconst C dX5_hasPorts_38 (v := nI 1) (by decide) ?_
          refine tw_goto C dX5_hasPorts_39 (tgt := 43) (by decide) ?_
          exact tw_ireturn C Q dX5_hasPorts_43 rfl rfl rfl ⟨bI_nt (by rw [hasPB_iff]; exact ⟨by omega, by omega, by omega⟩), rfl⟩
theorem c_X5_t {G : tw_G} (hG : tw_cG G) {S : tw_S} {r : Nat} (hr : tw_isRow r = true) {xs : List Nat} (hx : tw_R S r = xs) : tw_M G yX5_t cX5_t 1 (some .int) 2 46 [.ref (tw_ad G r)] S ri_I (fun v S' => v = nI (pkT xs) ∧ S = S') := by
  refine tw_M.of (L := [(0, .ref (tw_ad G r))]) (by decide) (Nat.le_of_ble_eq_true rfl) rfl (fun X C N Q => ?_)
  have C : tw_C G X cX5_t RX5 := C
  refine TW.wf (fun hwf => ?_)
  obtain ⟨hlen, hby⟩ := hwf r (hG r (tw_row_lt hr).2) hr
  have hcap := tw_row_cap hr
  rw [hx] at hlen hby
  have hn0_4 := nb_lt hby 0 4
  simp only [Nat.reducePow] at hn0_4
  refine tw_aload_n C dX5_t_0 0 rfl ?_
  refine tw_iconst C dX5_t_1 (v := nI 0) (by decide) ?_
  refine tw_iconst C dX5_t_2 (v := nI 4) (by decide) ?_
  refine tw_callV (As := [.int (nI 0), .int (nI 4)]) (rest := []) C N (e_X7_number hG (S := S) hr (xs := xs) hx (f := 0) (i := 4) (by omega) (by omega)) mm_X7_number wd_204 rfl (hG _ (tw_row_lt hr).2) (tw_row_sh hr) rfl (by decide) rfl (Nat.le_of_ble_eq_true rfl) dX5_t_3 ?_
  rintro _ _ ⟨rfl, rfl⟩
  show TW G X S [(0, .ref (tw_ad G r))] 6 [.long (lN (nb xs 0 4))]
  refine tw_bipush C dX5_t_6 (v := nI 20) (by decide) ?_
  refine tw_lushr C dX5_t_8 (v := lN ((nb xs 0 4) / 1048576)) (lN_ushr (by omega) 20 (by decide)) ?_
  refine tw_ldc2 C dX5_t_9 wd_226 (w := lN 255) (by decide) ?_
  refine tw_land C dX5_t_12 (v := lN (((nb xs 0 4) / 1048576) % 256)) (lN_andm 8) ?_
  refine tw_l2i C dX5_t_13 (v := nI (((nb xs 0 4) / 1048576) % 256)) (lN_i32 _) ?_
  exact tw_ireturn C Q dX5_t_14 rfl rfl rfl ⟨rfl, rfl⟩
theorem c_X5_l {G : tw_G} (hG : tw_cG G) {S : tw_S} {r : Nat} (hr : tw_isRow r = true) {xs : List Nat} (hx : tw_R S r = xs) : tw_M G yX5_l cX5_l 1 (some .int) 2 46 [.ref (tw_ad G r)] S ri_I (fun v S' => v = nI (pkL xs) ∧ S = S') := by
  refine tw_M.of (L := [(0, .ref (tw_ad G r))]) (by decide) (Nat.le_of_ble_eq_true rfl) rfl (fun X C N Q => ?_)
  have C : tw_C G X cX5_l RX5 := C
  refine TW.wf (fun hwf => ?_)
  obtain ⟨hlen, hby⟩ := hwf r (hG r (tw_row_lt hr).2) hr
  have hcap := tw_row_cap hr
  rw [hx] at hlen hby
  have hn0_4 := nb_lt hby 0 4
  simp only [Nat.reducePow] at hn0_4
  refine tw_aload_n C dX5_l_0 0 rfl ?_
  refine tw_iconst C dX5_l_1 (v := nI 0) (by decide) ?_
  refine tw_iconst C dX5_l_2 (v := nI 4) (by decide) ?_
  refine tw_callV (As := [.int (nI 0), .int (nI 4)]) (rest := []) C N (e_X7_number hG (S := S) hr (xs := xs) hx (f := 0) (i := 4) (by omega) (by omega)) mm_X7_number wd_204 rfl (hG _ (tw_row_lt hr).2) (tw_row_sh hr) rfl (by decide) rfl (Nat.le_of_ble_eq_true rfl) dX5_l_3 ?_
  rintro _ _ ⟨rfl, rfl⟩
  show TW G X S [(0, .ref (tw_ad G r))] 6 [.long (lN (nb xs 0 4))]
  refine tw_ldc2 C dX5_l_6 wd_230 (w := lN 1048575) (by decide) ?_
  refine tw_land C dX5_l_9 (v := lN ((nb xs 0 4) % 1048576)) (lN_andm 20) ?_
  refine tw_l2i C dX5_l_10 (v := nI ((nb xs 0 4) % 1048576)) (lN_i32 _) ?_
  exact tw_ireturn C Q dX5_l_11 rfl rfl rfl ⟨rfl, rfl⟩
theorem c_X5_headOf {G : tw_G} (hG : tw_cG G) {S : tw_S} {r : Nat} (hr : tw_isRow r = true) {xs : List Nat} (hx : tw_R S r = xs) : tw_M G yX5_headOf cX5_headOf 1 (some .int) 3 67 [.ref (tw_ad G r)] S ri_I (fun v S' => v = nI (pkH xs) ∧ S = S') := by
  refine tw_M.of (L := [(0, .ref (tw_ad G r))]) (by decide) (Nat.le_of_ble_eq_true rfl) rfl (fun X C N Q => ?_)
  have C : tw_C G X cX5_headOf RX5 := C
  refine tw_aload_n C dX5_headOf_0 0 rfl ?_
  refine tw_callS (As := [.ref (tw_ad G r)]) (rest := []) C N (c_X5_hasPorts hG (S := S) hr (xs := xs) hx) mm_X5_hasPorts wd_296 rfl (by decide) rfl (Nat.le_of_ble_eq_true rfl) dX5_headOf_1 ?_
  rintro _ _ ⟨rfl, rfl⟩
  show TW G X S [(0, .ref (tw_ad G r))] 4 [.int (bI (hasPB xs))]
  refine tb_if_eq C dX5_headOf_4 (tgt := 12) (by decide) (fun c1 => ?_) (fun c1 => ?_)
  · skip
    refine tw_bipush C dX5_headOf_12 (v := nI 40) (by decide) ?_
    exact tw_ireturn C Q dX5_headOf_14 rfl rfl rfl ⟨by simp [pkH, c1], rfl⟩
  · skip
    refine tw_bipush C dX5_headOf_7 (v := nI 48) (by decide) ?_
    refine tw_goto C dX5_headOf_9 (tgt := 14) (by decide) ?_
    exact tw_ireturn C Q dX5_headOf_14 rfl rfl rfl ⟨by simp [pkH, c1], rfl⟩
theorem pkT_lt (xs : List Nat) : pkT xs < 256 := Nat.mod_lt _ (by decide)
theorem pkL_lt (xs : List Nat) : pkL xs < 1048576 := Nat.mod_lt _ (by decide)
theorem c_X8_trafficOf {G : tw_G} (hG : tw_cG G) {S : tw_S} {r : Nat} (hr : tw_isRow r = true) {xs : List Nat} (hx : tw_R S r = xs) : tw_M G yX8_trafficOf cX8_trafficOf 2 (some .int) 3 66 [.ref (tw_ad G r)] S ri_I (fun v S' => v = nI (sqTF (pkT xs) (pkL xs)) ∧ S = S') := by
  refine tw_M.of (L := [(0, .ref (tw_ad G r))]) (by decide) (Nat.le_of_ble_eq_true rfl) rfl (fun X C N Q => ?_)
  have C : tw_C G X cX8_trafficOf RX8 := C
  have ht := pkT_lt xs
  have hl := pkL_lt xs
  refine tw_aload_n C dX8_trafficOf_0 0 rfl ?_
  refine tw_callS (As := [.ref (tw_ad G r)]) (rest := []) C N (c_X5_t hG (S := S) hr (xs := xs) hx) mm_X5_t wd_223 rfl (by decide) rfl (Nat.le_of_ble_eq_true rfl) dX8_trafficOf_1 ?_
  rintro _ _ ⟨rfl, rfl⟩
  show TW G X S [(0, .ref (tw_ad G r))] 4 [.int (nI (pkT xs))]
  refine tw_istore_n (L' := [(1, .int (nI (pkT xs))), (0, .ref (tw_ad G r))]) C N dX8_trafficOf_4 rfl (by decide) rfl ?_
  refine tw_aload_n C dX8_trafficOf_5 1 rfl ?_
  refine tw_callS (As := [.ref (tw_ad G r)]) (rest := []) C N (c_X5_l hG (S := S) hr (xs := xs) hx) mm_X5_l wd_227 rfl (by decide) rfl (Nat.le_of_ble_eq_true rfl) dX8_trafficOf_6 ?_
  rintro _ _ ⟨rfl, rfl⟩
  show TW G X S [(1, .int (nI (pkT xs))), (0, .ref (tw_ad G r))] 9 [.int (nI (pkL xs))]
  refine tn_if_ne C dX8_trafficOf_9 (tgt := 22) (by decide) (by omega) (fun c3 => ?_) (fun c3 => ?_)
  · skip
    refine tw_iload_n C dX8_trafficOf_22 0 rfl ?_
    refine tw_iconst C dX8_trafficOf_23 (v := nI 2) (by decide) ?_
    refine tw_ishr C dX8_trafficOf_24 (v := nI ((pkT xs) / 4)) (nI_shr (by omega) 2 (by decide)) ?_
    refine tn_if_ne C dX8_trafficOf_25 (tgt := 32) (by decide) (by omega) (fun c4 => ?_) (fun c4 => ?_)
    · skip
      refine tw_iconst C dX8_trafficOf_32 (v := nI 0) (by decide) ?_
      exact tw_ireturn C Q dX8_trafficOf_33 rfl rfl rfl ⟨by simp [sqTF, *], rfl⟩
    · skip
      refine tw_iconst C dX8_trafficOf_28 (v := nI 1) (by decide) ?_
      refine tw_goto C dX8_trafficOf_29 (tgt := 33) (by decide) ?_
      exact tw_ireturn C Q dX8_trafficOf_33 rfl rfl rfl ⟨by simp [sqTF, *], rfl⟩
  · skip
    refine tw_iload_n C dX8_trafficOf_12 0 rfl ?_
    refine tn_if_ne C dX8_trafficOf_13 (tgt := 20) (by decide) (by omega) (fun c5 => ?_) (fun c5 => ?_)
    · skip
      refine tw_iconst C dX8_trafficOf_20 (v := nI 2) (by decide) ?_
      exact tw_ireturn C Q dX8_trafficOf_21 rfl rfl rfl ⟨by simp [sqTF, *], rfl⟩
    · skip
      refine tw_iconst C dX8_trafficOf_16 (v := nI 3) (by decide) ?_
      refine tw_goto C dX8_trafficOf_17 (tgt := 21) (by decide) ?_
      exact tw_ireturn C Q dX8_trafficOf_21 rfl rfl rfl ⟨by simp [sqTF, *], rfl⟩
theorem c_X8_hopsOf {G : tw_G} (hG : tw_cG G) {S : tw_S} {h : Nat} (hh : h < 2 ^ 31) : tw_M G yX8_hopsOf cX8_hopsOf 1 (some .int) 0 0 [.int (nI h)] S ri_I (fun v S' => v = nI (sqHL h) ∧ S = S') := by
  refine tw_M.of (L := [(0, .int (nI h))]) (by decide) (Nat.le_of_ble_eq_true rfl) rfl (fun X C N Q => ?_)
  have C : tw_C G X cX8_hopsOf RX8 := C
  refine tw_iload_n C dX8_hopsOf_0 0 rfl ?_
  rcases (show h = 1 ∨ h = 64 ∨ h = 255 ∨ (h ≠ 1 ∧ h ≠ 64 ∧ h ≠ 255) by omega) with q | q | q | q
  · refine tn_lookup (tgt := 36) (off := 35) C dX8_hopsOf_1 (by decide) (by omega) (by simp [Op.lookupswitch.offset, q]) (by decide) ?_
    refine tw_iconst C dX8_hopsOf_36 (v := nI 1) (by decide) ?_
    exact tw_ireturn C Q dX8_hopsOf_37 rfl rfl rfl ⟨by simp [sqHL, q], rfl⟩
  · refine tn_lookup (tgt := 38) (off := 37) C dX8_hopsOf_1 (by decide) (by omega) (by simp [Op.lookupswitch.offset, q]) (by decide) ?_
    refine tw_iconst C dX8_hopsOf_38 (v := nI 2) (by decide) ?_
    exact tw_ireturn C Q dX8_hopsOf_39 rfl rfl rfl ⟨by simp [sqHL, q], rfl⟩
  · refine tn_lookup (tgt := 40) (off := 39) C dX8_hopsOf_1 (by decide) (by omega) (by simp [Op.lookupswitch.offset, q]) (by decide) ?_
    refine tw_iconst C dX8_hopsOf_40 (v := nI 3) (by decide) ?_
    exact tw_ireturn C Q dX8_hopsOf_41 rfl rfl rfl ⟨by simp [sqHL, q], rfl⟩
  · refine tn_lookup (tgt := 42) (off := 41) C dX8_hopsOf_1 (by decide) (by omega) (by show Op.lookupswitch.offset [(1, 35), (64, 37), (255, 39)] 41 _ = 41; rw [Op.lookupswitch.offset_cons, if_neg (by omega), Op.lookupswitch.offset_cons, if_neg (by omega), Op.lookupswitch.offset_cons, if_neg (by omega)]; rfl) (by decide) ?_
    refine tw_iconst C dX8_hopsOf_42 (v := nI 0) (by decide) ?_
    exact tw_ireturn C Q dX8_hopsOf_43 rfl rfl rfl ⟨by simp [sqHL, q], rfl⟩
theorem c_X8_contextOf {G : tw_G} (hG : tw_cG G) {S : tw_S} {K : kN} (hK : KN S K) {m f : Nat} (hm : m < 2 ^ 31) (hf : f < 2 ^ 64) (hm2 : 4 < m ∧ m < 8 → lst K f 0 16 ≠ none) : tw_M G yX8_contextOf cX8_contextOf 4 (some .int) 1 23 [.ref (tw_ad G 8), .int (nI m), .long (lN f)] S ri_I (fun v S' => v = nI (ctxN K m f) ∧ S = S') := by
  refine tw_M.of (L := [(0, .ref (tw_ad G 8)), (1, .int (nI m)), (2, .long (lN f))]) (by decide) (Nat.le_of_ble_eq_true rfl) rfl (fun X C N Q => ?_)
  have C : tw_C G X cX8_contextOf RX8 := C
  refine tw_iload_n C dX8_contextOf_0 1 rfl ?_
  refine tw_callS (As := [.int (nI m)]) (rest := []) C N (c_X4_usesContext hG (S := S) (m := m) (by omega)) mm_X4_usesContext wd_269 rfl (by decide) rfl (Nat.le_of_ble_eq_true rfl) dX8_contextOf_1 ?_
  rintro _ _ ⟨rfl, rfl⟩
  show TW G X S [(0, .ref (tw_ad G 8)), (1, .int (nI m)), (2, .long (lN f))] 4 [.int (bI (decide (4 < m ∧ m < 8)))]
  refine tb_if_eq C dX8_contextOf_4 (tgt := 18) (by decide) (fun c0 => ?_) (fun c0 => ?_)
  · simp only [decide_eq_false_iff_not] at c0
    have c1 : (4 < m ∧ m < 8) = False := eq_false c0
    refine tw_iconst C dX8_contextOf_18 (v := nI 0) (by decide) ?_
    exact tw_ireturn C Q dX8_contextOf_19 rfl rfl rfl ⟨by simp only [ctxN, c1, if_true, if_false]; try rfl, rfl⟩
  · simp only [decide_eq_true_eq] at c0
    have c1 : (4 < m ∧ m < 8) = True := eq_true c0
    refine tw_aload_n C dX8_contextOf_7 0 rfl ?_
    refine tw_getR (q := 5) (k := 0) C dX8_contextOf_8 fc_X8 sh_8 (hG 8 (by decide)) rfl (by decide) wd_58 ?_
    refine tw_lload_n C dX8_contextOf_11 2 rfl ?_
    refine tw_callV (As := [.long (lN f)]) (rest := []) C N (c_X3_least hG (S := S) hK (v := f) (by omega)) mm_X3_least wd_272 rfl (hG 5 (by decide)) sh_5 rfl (by decide) rfl (Nat.le_of_ble_eq_true rfl) dX8_contextOf_12 ?_
    rintro _ _ ⟨rfl, rfl⟩
    show TW G X S [(0, .ref (tw_ad G 8)), (1, .int (nI m)), (2, .long (lN f))] 15 [.int (lsI (lst K f 0 16))]
    obtain ⟨j, hj⟩ := Option.ne_none_iff_exists'.mp (hm2 c0)
    refine TW.ti (y := nI ((lst K f 0 16).getD 0)) (by rw [hj]; rfl) ?_
    refine tw_goto C dX8_contextOf_15 (tgt := 19) (by decide) ?_
    exact tw_ireturn C Q dX8_contextOf_19 rfl rfl rfl ⟨by simp only [ctxN, c1, if_true, if_false]; try rfl, rfl⟩
theorem sqTn_or {t : Nat} (h : t < 256) : t % 4 * 64 ||| t / 4 = sqTn t := by
  have h0 : ∀ t, t < 256 → t % 4 * 64 ||| t / 4 = sqTn t := by decide +kernel
  exact h0 t h
theorem sqTn_lt {t : Nat} (h : t < 256) : sqTn t < 256 := by unfold sqTn; omega
theorem sqT1_or {t l : Nat} (h : t / 4 = 0) (h2 : t < 256) (hl : l < 1048576) : sqTn t * 65536 ||| l = sqTn t * 65536 + l := by
  have e : sqTn t = t % 4 * 64 := by unfold sqTn; omega
  have := Nat.two_pow_add_eq_or_of_lt (i := 20) (b := l) (by omega) (t % 4 * 4)
  simp only [Nat.reducePow] at this
  rw [e, show t % 4 * 64 * 65536 = 1048576 * (t % 4 * 4) by omega, this]
theorem c_X8_writeTraffic {G : tw_G} (hG : tw_cG G) {S : tw_S} {q : Nat} (hq : tw_isRow q = true) (hq1 : 1 ≠ q) {xs ys : List Nat} (hx : tw_R S 1 = xs) (hy : tw_R S q = ys) {tf : Nat} (htf0 : tf < 4) (htf : tf = 1 → pkT xs / 4 = 0) : tw_M G yX8_writeTraffic cX8_writeTraffic 6 none 3 66 [.ref (tw_ad G 1), .int (nI tf), .ref (tw_ad G q)] S ri_V (fun _ S' => S' = tw_uR S q ((ys ++ sqTr tf (pkT xs) (pkL xs)).take (tw_cap q))) := by
  refine tw_M.of (L := [(0, .ref (tw_ad G 1)), (1, .int (nI tf)), (2, .ref (tw_ad G q))]) (by decide) (Nat.le_of_ble_eq_true rfl) rfl (fun X C N Q => ?_)
  have C : tw_C G X cX8_writeTraffic RX8 := C
  refine TW.wf (fun hwf => ?_)
  have hlq := (hwf q (hG q (tw_row_lt hq).2) hq).1
  rw [hy] at hlq
  have ht := pkT_lt xs
  have hl := pkL_lt xs
  have hTn := sqTn_lt ht
  refine tw_aload_n C dX8_writeTraffic_0 0 rfl ?_
  refine tw_callS (As := [.ref (tw_ad G 1)]) (rest := []) C N (c_X5_t hG (S := S) tw_row1 (xs := xs) hx) mm_X5_t wd_223 rfl (by decide) rfl (Nat.le_of_ble_eq_true rfl) dX8_writeTraffic_1 ?_
  rintro _ _ ⟨rfl, rfl⟩
  show TW G X S [(0, .ref (tw_ad G 1)), (1, .int (nI tf)), (2, .ref (tw_ad G q))] 4 [.int (nI (pkT xs))]
  refine tw_istore_n (L' := [(3, .int (nI (pkT xs))), (0, .ref (tw_ad G 1)), (1, .int (nI tf)), (2, .ref (tw_ad G q))]) C N dX8_writeTraffic_4 rfl (by decide) rfl ?_
  refine tw_aload_n C dX8_writeTraffic_5 1 rfl ?_
  refine tw_callS (As := [.ref (tw_ad G 1)]) (rest := []) C N (c_X5_l hG (S := S) tw_row1 (xs := xs) hx) mm_X5_l wd_227 rfl (by decide) rfl (Nat.le_of_ble_eq_true rfl) dX8_writeTraffic_6 ?_
  rintro _ _ ⟨rfl, rfl⟩
  show TW G X S [(3, .int (nI (pkT xs))), (0, .ref (tw_ad G 1)), (1, .int (nI tf)), (2, .ref (tw_ad G q))] 9 [.int (nI (pkL xs))]
  refine tw_istore (L' := [(4, .int (nI (pkL xs))), (3, .int (nI (pkT xs))), (0, .ref (tw_ad G 1)), (1, .int (nI tf)), (2, .ref (tw_ad G q))]) C N dX8_writeTraffic_9 (i := 4) (by decide) rfl ?_
  refine tw_iload_n C dX8_writeTraffic_11 1 rfl ?_
  refine tw_iconst C dX8_writeTraffic_12 (v := nI 3) (by decide) ?_
  refine tw_iand C dX8_writeTraffic_13 (v := nI ((pkT xs) % 4)) (nI_andm 2 (by decide)) ?_
  refine tw_bipush C dX8_writeTraffic_14 (v := nI 6) (by decide) ?_
  refine tw_ishl C dX8_writeTraffic_16 (v := nI (((pkT xs) % 4) * 64)) (nI_shl _ 6 (by decide)) ?_
  refine tw_iload_n C dX8_writeTraffic_17 1 rfl ?_
  refine tw_iconst C dX8_writeTraffic_18 (v := nI 2) (by decide) ?_
  refine tw_ishr C dX8_writeTraffic_19 (v := nI ((pkT xs) / 4)) (nI_shr (by omega) 2 (by decide)) ?_
  refine tw_ior C dX8_writeTraffic_20 (v := nI (sqTn (pkT xs))) (by rw [nI_or, sqTn_or ht]) ?_
  refine tw_istore (L' := [(5, .int (nI (sqTn (pkT xs)))), (4, .int (nI (pkL xs))), (3, .int (nI (pkT xs))), (0, .ref (tw_ad G 1)), (1, .int (nI tf)), (2, .ref (tw_ad G q))]) C N dX8_writeTraffic_21 (i := 5) (by decide) rfl ?_
  refine tw_iload_n C dX8_writeTraffic_23 4 rfl ?_
  refine tn_if_ne C dX8_writeTraffic_24 (tgt := 44) (by decide) (by omega) (fun ht0 => ?_) (fun ht0 => ?_)
  · skip
    refine tw_iload_n C dX8_writeTraffic_44 4 rfl ?_
    refine tw_iconst C dX8_writeTraffic_45 (v := nI 1) (by decide) ?_
    refine tn_icmp_ne C dX8_writeTraffic_46 (tgt := 66) (by decide) (by omega) (by omega) (fun ht1 => ?_) (fun ht1 => ?_)
    · skip
      refine tw_iload_n C dX8_writeTraffic_66 4 rfl ?_
      refine tw_iconst C dX8_writeTraffic_67 (v := nI 2) (by decide) ?_
      refine tn_icmp_ne C dX8_writeTraffic_68 (tgt := 77) (by decide) (by omega) (by omega) (fun ht2 => ?_) (fun ht2 => ?_)
      · skip
        exact tw_return (v := ()) C Q dX8_writeTraffic_77 rfl rfl (by rw [show sqTr tf (pkT xs) (pkL xs) = [] by simp [sqTr, ht0, ht1, ht2], List.append_nil, List.take_of_length_le hlq, ← hy, tw_uR_self])
      · skip
        refine tw_aload_n C dX8_writeTraffic_71 5 rfl ?_
        refine tw_iload C dX8_writeTraffic_72 0 rfl ?_
        refine tw_callV (As := [.int (nI (sqTn (pkT xs)))]) (rest := []) C N (e_X7_add hG (S := S) hq (xs := ys) hy (x := sqTn (pkT xs))) mm_X7_add wd_277 rfl (hG _ (tw_row_lt hq).2) (tw_row_sh hq) rfl (by decide) rfl (Nat.le_of_ble_eq_true rfl) dX8_writeTraffic_74 ?_
        rintro _ _ rfl
        show TW G X (tw_uR S q ((ys ++ [(sqTn (pkT xs)) % 256]).take (tw_cap q))) [(5, .int (nI (sqTn (pkT xs)))), (4, .int (nI (pkL xs))), (3, .int (nI (pkT xs))), (0, .ref (tw_ad G 1)), (1, .int (nI tf)), (2, .ref (tw_ad G q))] 77 []
        exact tw_return (v := ()) C Q dX8_writeTraffic_77 rfl rfl (by simp [sqTr, *, Nat.mod_eq_of_lt hTn])
    · skip
      refine tw_aload_n C dX8_writeTraffic_49 5 rfl ?_
      refine tw_iload C dX8_writeTraffic_50 0 rfl ?_
      refine tw_bipush C dX8_writeTraffic_52 (v := nI 16) (by decide) ?_
      refine tw_ishl C dX8_writeTraffic_54 (v := nI ((sqTn (pkT xs)) * 65536)) (nI_shl _ 16 (by decide)) ?_
      refine tw_iload C dX8_writeTraffic_55 1 rfl ?_
      refine tw_ior C dX8_writeTraffic_57 (v := nI (sqTn (pkT xs) * 65536 + pkL xs)) (by rw [nI_or, sqT1_or (htf ht1) ht hl]) ?_
      refine tw_i2l C dX8_writeTraffic_58 (v := lN (sqTn (pkT xs) * 65536 + pkL xs)) (nI_i64 (by have := hTn; omega)) ?_
      refine tw_iconst C dX8_writeTraffic_59 (v := nI 3) (by decide) ?_
      refine tw_callV (As := [.long (lN (sqTn (pkT xs) * 65536 + pkL xs)), .int (nI 3)]) (rest := []) C N (e_X7_addNumber hG (S := S) hq (xs := ys) hy (v := sqTn (pkT xs) * 65536 + pkL xs) (i := 3) (by omega) (by omega)) mm_X7_addNumber wd_281 rfl (hG _ (tw_row_lt hq).2) (tw_row_sh hq) rfl (by decide) rfl (Nat.le_of_ble_eq_true rfl) dX8_writeTraffic_60 ?_
      rintro _ _ rfl
      show TW G X (tw_uR S q ((ys ++ be (sqTn (pkT xs) * 65536 + pkL xs) 3).take (tw_cap q))) [(5, .int (nI (sqTn (pkT xs)))), (4, .int (nI (pkL xs))), (3, .int (nI (pkT xs))), (0, .ref (tw_ad G 1)), (1, .int (nI tf)), (2, .ref (tw_ad G q))] 63 []
      refine tw_goto C dX8_writeTraffic_63 (tgt := 77) (by decide) ?_
      exact tw_return (v := ()) C Q dX8_writeTraffic_77 rfl rfl (by simp [sqTr, *, Nat.mod_eq_of_lt hTn])
  · skip
    refine tw_aload_n C dX8_writeTraffic_27 5 rfl ?_
    refine tw_iload C dX8_writeTraffic_28 0 rfl ?_
    refine tw_callV (As := [.int (nI (sqTn (pkT xs)))]) (rest := []) C N (e_X7_add hG (S := S) hq (xs := ys) hy (x := sqTn (pkT xs))) mm_X7_add wd_277 rfl (hG _ (tw_row_lt hq).2) (tw_row_sh hq) rfl (by decide) rfl (Nat.le_of_ble_eq_true rfl) dX8_writeTraffic_30 ?_
    rintro _ _ rfl
    show TW G X (tw_uR S q ((ys ++ [(sqTn (pkT xs)) % 256]).take (tw_cap q))) [(5, .int (nI (sqTn (pkT xs)))), (4, .int (nI (pkL xs))), (3, .int (nI (pkT xs))), (0, .ref (tw_ad G 1)), (1, .int (nI tf)), (2, .ref (tw_ad G q))] 33 []
    refine tw_aload_n C dX8_writeTraffic_33 5 rfl ?_
    refine tw_iload C dX8_writeTraffic_34 1 rfl ?_
    refine tw_i2l C dX8_writeTraffic_36 (v := lN (pkL xs)) (nI_i64 (by omega)) ?_
    refine tw_iconst C dX8_writeTraffic_37 (v := nI 3) (by decide) ?_
    refine tw_callV (As := [.long (lN (pkL xs)), .int (nI 3)]) (rest := []) C N (e_X7_addNumber hG (S := tw_uR S q ((ys ++ [(sqTn (pkT xs)) % 256]).take (tw_cap q))) hq (xs := (ys ++ [(sqTn (pkT xs)) % 256]).take (tw_cap q)) (tq_uR_same _ _ _) (v := pkL xs) (i := 3) (by omega) (by omega)) mm_X7_addNumber wd_281 rfl (hG _ (tw_row_lt hq).2) (tw_row_sh hq) rfl (by decide) rfl (Nat.le_of_ble_eq_true rfl) dX8_writeTraffic_38 ?_
    rintro _ _ rfl
    show TW G X (tw_uR (tw_uR S q ((ys ++ [(sqTn (pkT xs)) % 256]).take (tw_cap q))) q ((((ys ++ [(sqTn (pkT xs)) % 256]).take (tw_cap q)) ++ be (pkL xs) 3).take (tw_cap q))) [(5, .int (nI (sqTn (pkT xs)))), (4, .int (nI (pkL xs))), (3, .int (nI (pkT xs))), (0, .ref (tw_ad G 1)), (1, .int (nI tf)), (2, .ref (tw_ad G q))] 41 []
    refine TW.sS (S' := tw_uR S q ((ys ++ [(sqTn (pkT xs)) % 256] ++ be (pkL xs) 3).take (tw_cap q))) (by rw [tw_uR_uR, tk_tk]) ?_
    refine tw_goto C dX8_writeTraffic_41 (tgt := 77) (by decide) ?_
    exact tw_return (v := ()) C Q dX8_writeTraffic_77 rfl rfl (by simp [sqTr, *, Nat.mod_eq_of_lt hTn])
