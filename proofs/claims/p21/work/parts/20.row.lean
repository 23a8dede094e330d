theorem c_X7_length {G : tw_G} (hG : tw_cG G) {S : tw_S} {r : Nat} (hr : tw_isRow r = true) : tw_M G yX7_length cX7_length 1 (some .int) 0 0 [.ref (tw_ad G r)] S ri_I (fun v S' => v = nI (tw_R S r).length ∧ S = S') := by
  refine tw_M.of (L := [(0, .ref (tw_ad G r))]) (by decide) (Nat.le_of_ble_eq_true rfl) rfl (fun X C N Q => ?_)
  have C : tw_C G X cX7_length RX7 := C
  refine tw_aload_n C dX7_length_0 0 rfl ?_
  refine tw_getN (k := 1) C dX7_length_1 fc_X7 (tw_row_sh hr) (hG _ (tw_row_lt hr).2) rfl (by decide) wd_71 ?_
  exact tw_ireturn C Q dX7_length_4 rfl rfl rfl ⟨rfl, rfl⟩
theorem c_X7_has {G : tw_G} (hG : tw_cG G) {S : tw_S} {r : Nat} (hr : tw_isRow r = true) {i : Nat} (hi : i < 2 ^ 32) : tw_M G yX7_has cX7_has 2 (some .boolean) 0 0 [.ref (tw_ad G r), .int (nI i)] S ri_I (fun v S' => v = bI (decide (i < (tw_R S r).length)) ∧ S = S') := by
  refine tw_M.of (L := [(0, .ref (tw_ad G r)), (1, .int (nI i))]) (by decide) (Nat.le_of_ble_eq_true rfl) rfl (fun X C N Q => ?_)
  have C : tw_C G X cX7_has RX7 := C
  rcases Nat.lt_or_ge i (2 ^ 31) with hi1 | hi1
  · skip
    refine TW.wf (fun hwf => ?_)
    obtain ⟨hlen, hby⟩ := hwf r (hG r (tw_row_lt hr).2) hr
    have hcap := tw_row_cap hr
    refine tw_iload_n C dX7_has_0 1 rfl ?_
    refine tn_if_lt C dX7_has_1 (tgt := 16) (by decide) (by omega) (fun c1 => ?_) (fun c1 => ?_)
    · exact absurd c1 id
    refine tw_iload_n C dX7_has_4 1 rfl ?_
    refine tw_aload_n C dX7_has_5 0 rfl ?_
    refine tw_getN (k := 1) C dX7_has_6 fc_X7 (tw_row_sh hr) (hG _ (tw_row_lt hr).2) rfl (by decide) wd_71 ?_
    refine tn_icmp_ge C dX7_has_9 (tgt := 16) (by decide) (by omega) (by omega) (fun c2 => ?_) (fun c2 => ?_)
    · skip
      refine tw_iconst C dX7_has_16 (v := nI 0) (by decide) ?_
      exact tw_ireturn C Q dX7_has_17 rfl rfl rfl ⟨bI_of_f (by omega), rfl⟩
    · skip
      refine tw_iconst C dX7_has_12 (v := nI 1) (by decide) ?_
      refine tw_goto C dX7_has_13 (tgt := 17) (by decide) ?_
      exact tw_ireturn C Q dX7_has_17 rfl rfl rfl ⟨bI_of_t (by omega), rfl⟩
  · have hneg := nI_neg hi1 hi
    refine TW.wf (fun hwf => ?_)
    obtain ⟨hlen, hby⟩ := hwf r (hG r (tw_row_lt hr).2) hr
    have hcap := tw_row_cap hr
    refine tw_iload_n C dX7_has_0 1 rfl ?_
    refine tw_if_lt C dX7_has_1 (tgt := 16) (by decide) (fun c1 => ?_) (fun c1 => ?_)
    · skip
      refine tw_iconst C dX7_has_16 (v := nI 0) (by decide) ?_
      exact tw_ireturn C Q dX7_has_17 rfl rfl rfl ⟨bI_of_f (by omega), rfl⟩
    · exact absurd hneg c1
theorem c_X7_takes {G : tw_G} (hG : tw_cG G) {S : tw_S} {r : Nat} (hr : tw_isRow r = true) {i : Nat} (hi : i < 2 ^ 31) : tw_M G yX7_takes cX7_takes 2 (some .boolean) 0 0 [.ref (tw_ad G r), .int (nI i)] S ri_I (fun v S' => v = bI (decide (i + (tw_R S r).length ≤ tw_cap r)) ∧ S = S') := by
  refine tw_M.of (L := [(0, .ref (tw_ad G r)), (1, .int (nI i))]) (by decide) (Nat.le_of_ble_eq_true rfl) rfl (fun X C N Q => ?_)
  have C : tw_C G X cX7_takes RX7 := C
  refine TW.wf (fun hwf => ?_)
  obtain ⟨hlen, hby⟩ := hwf r (hG r (tw_row_lt hr).2) hr
  have hcap := tw_row_cap hr
  refine tw_iload_n C dX7_takes_0 1 rfl ?_
  refine tw_aload_n C dX7_takes_1 0 rfl ?_
  refine tw_getR (q := r + 1) (k := 0) C dX7_takes_2 fc_X7 (tw_row_sh hr) (hG _ (tw_row_lt hr).2) rfl (by decide) wd_70 ?_
  refine tw_alen C dX7_takes_5 (tw_row_a0 hr) (tw_row_ar hr) (Or.inr rfl) (hG _ (tw_row_lt1 hr)) ?_
  refine tw_aload_n C dX7_takes_6 0 rfl ?_
  refine tw_getN (k := 1) C dX7_takes_7 fc_X7 (tw_row_sh hr) (hG _ (tw_row_lt hr).2) rfl (by decide) wd_71 ?_
  refine tw_isub C dX7_takes_10 (v := nI ((tw_cap r) - ((tw_R S r).length))) (pk_sub (by omega)) ?_
  refine tn_icmp_gt C dX7_takes_11 (tgt := 18) (by decide) (by omega) (by omega) (fun c1 => ?_) (fun c1 => ?_)
  · skip
    refine tw_iconst C dX7_takes_18 (v := nI 0) (by decide) ?_
    exact tw_ireturn C Q dX7_takes_19 rfl rfl rfl ⟨bI_of_f (by omega), rfl⟩
  · skip
    refine tw_iconst C dX7_takes_14 (v := nI 1) (by decide) ?_
    refine tw_goto C dX7_takes_15 (tgt := 19) (by decide) ?_
    exact tw_ireturn C Q dX7_takes_19 rfl rfl rfl ⟨bI_of_t (by omega), rfl⟩
theorem c_X7_at {G : tw_G} (hG : tw_cG G) {S : tw_S} {r : Nat} (hr : tw_isRow r = true) {i : Nat} (hi : i < 2 ^ 32) : tw_M G yX7_at cX7_at 2 (some .int) 0 0 [.ref (tw_ad G r), .int (nI i)] S ri_I (fun v S' => v = nI ((tw_R S r).getD i 0) ∧ S = S') := by
  refine tw_M.of (L := [(0, .ref (tw_ad G r)), (1, .int (nI i))]) (by decide) (Nat.le_of_ble_eq_true rfl) rfl (fun X C N Q => ?_)
  have C : tw_C G X cX7_at RX7 := C
  rcases Nat.lt_or_ge i (2 ^ 31) with hi1 | hi1
  · skip
    refine TW.wf (fun hwf => ?_)
    obtain ⟨hlen, hby⟩ := hwf r (hG r (tw_row_lt hr).2) hr
    have hcap := tw_row_cap hr
    refine tw_iload_n C dX7_at_0 1 rfl ?_
    refine tn_if_lt C dX7_at_1 (tgt := 30) (by decide) (by omega) (fun c1 => ?_) (fun c1 => ?_)
    · exact absurd c1 id
    refine tw_iload_n C dX7_at_4 1 rfl ?_
    refine tw_aload_n C dX7_at_5 0 rfl ?_
    refine tw_getN (k := 1) C dX7_at_6 fc_X7 (tw_row_sh hr) (hG _ (tw_row_lt hr).2) rfl (by decide) wd_71 ?_
    refine tn_icmp_ge C dX7_at_9 (tgt := 30) (by decide) (by omega) (by omega) (fun c2 => ?_) (fun c2 => ?_)
    · skip
      refine tw_iconst C dX7_at_30 (v := nI 0) (by decide) ?_
      exact tw_ireturn C Q dX7_at_31 rfl rfl rfl ⟨by rw [getD_out (by omega)], rfl⟩
    · skip
      refine tw_iload_n C dX7_at_12 1 rfl ?_
      refine tw_aload_n C dX7_at_13 0 rfl ?_
      refine tw_getR (q := r + 1) (k := 0) C dX7_at_14 fc_X7 (tw_row_sh hr) (hG _ (tw_row_lt hr).2) rfl (by decide) wd_70 ?_
      refine tw_alen C dX7_at_17 (tw_row_a0 hr) (tw_row_ar hr) (Or.inr rfl) (hG _ (tw_row_lt1 hr)) ?_
      refine tn_icmp_ge C dX7_at_18 (tgt := 30) (by decide) (by omega) (by omega) (fun c3 => ?_) (fun c3 => ?_)
      · skip
        refine tw_iconst C dX7_at_30 (v := nI 0) (by decide) ?_
        exact tw_ireturn C Q dX7_at_31 rfl rfl rfl ⟨by rw [getD_out (by omega)], rfl⟩
      · skip
        refine tw_aload_n C dX7_at_21 0 rfl ?_
        refine tw_getR (q := r + 1) (k := 0) C dX7_at_22 fc_X7 (tw_row_sh hr) (hG _ (tw_row_lt hr).2) rfl (by decide) wd_70 ?_
        refine tw_iload_n C dX7_at_25 1 rfl ?_
        refine tw_rald (x := (tw_R S r).getD i 0) C dX7_at_26 hr (hG _ (tw_row_lt hr).2) (hG _ (tw_row_lt1 hr)) (getD_some (by omega) 0) ?_
        refine tw_goto C dX7_at_27 (tgt := 31) (by decide) ?_
        exact tw_ireturn C Q dX7_at_31 rfl rfl rfl ⟨rfl, rfl⟩
  · have hneg := nI_neg hi1 hi
    refine TW.wf (fun hwf => ?_)
    obtain ⟨hlen, hby⟩ := hwf r (hG r (tw_row_lt hr).2) hr
    have hcap := tw_row_cap hr
    refine tw_iload_n C dX7_at_0 1 rfl ?_
    refine tw_if_lt C dX7_at_1 (tgt := 30) (by decide) (fun c1 => ?_) (fun c1 => ?_)
    · skip
      refine tw_iconst C dX7_at_30 (v := nI 0) (by decide) ?_
      exact tw_ireturn C Q dX7_at_31 rfl rfl rfl ⟨by rw [getD_out (by omega)], rfl⟩
    · exact absurd hneg c1
theorem c_X7_set {G : tw_G} (hG : tw_cG G) {S : tw_S} {r : Nat} (hr : tw_isRow r = true) {x : Nat} {i : Nat} (hi : i < 2 ^ 32) : tw_M G yX7_set cX7_set 3 none 0 0 [.ref (tw_ad G r), .int (nI i), .int (nI x)] S ri_V (fun _ S' => S' = tw_uR S r ((tw_R S r).set i (x % 256))) := by
  refine tw_M.of (L := [(0, .ref (tw_ad G r)), (1, .int (nI i)), (2, .int (nI x))]) (by decide) (Nat.le_of_ble_eq_true rfl) rfl (fun X C N Q => ?_)
  have C : tw_C G X cX7_set RX7 := C
  rcases Nat.lt_or_ge i (2 ^ 31) with hi1 | hi1
  · skip
    refine TW.wf (fun hwf => ?_)
    obtain ⟨hlen, hby⟩ := hwf r (hG r (tw_row_lt hr).2) hr
    have hcap := tw_row_cap hr
    refine tw_iload_n C dX7_set_0 1 rfl ?_
    refine tn_if_lt C dX7_set_1 (tgt := 32) (by decide) (by omega) (fun c1 => ?_) (fun c1 => ?_)
    · exact absurd c1 id
    refine tw_iload_n C dX7_set_4 1 rfl ?_
    refine tw_aload_n C dX7_set_5 0 rfl ?_
    refine tw_getN (k := 1) C dX7_set_6 fc_X7 (tw_row_sh hr) (hG _ (tw_row_lt hr).2) rfl (by decide) wd_71 ?_
    refine tn_icmp_ge C dX7_set_9 (tgt := 32) (by decide) (by omega) (by omega) (fun c2 => ?_) (fun c2 => ?_)
    · skip
      exact tw_return (v := ()) C Q dX7_set_32 rfl rfl (by rw [set_out (by omega), tw_uR_self])
    · skip
      refine tw_iload_n C dX7_set_12 1 rfl ?_
      refine tw_aload_n C dX7_set_13 0 rfl ?_
      refine tw_getR (q := r + 1) (k := 0) C dX7_set_14 fc_X7 (tw_row_sh hr) (hG _ (tw_row_lt hr).2) rfl (by decide) wd_70 ?_
      refine tw_alen C dX7_set_17 (tw_row_a0 hr) (tw_row_ar hr) (Or.inr rfl) (hG _ (tw_row_lt1 hr)) ?_
      refine tn_icmp_ge C dX7_set_18 (tgt := 32) (by decide) (by omega) (by omega) (fun c3 => ?_) (fun c3 => ?_)
      · skip
        exact tw_return (v := ()) C Q dX7_set_32 rfl rfl (by rw [set_out (by omega), tw_uR_self])
      · skip
        refine tw_aload_n C dX7_set_21 0 rfl ?_
        refine tw_getR (q := r + 1) (k := 0) C dX7_set_22 fc_X7 (tw_row_sh hr) (hG _ (tw_row_lt hr).2) rfl (by decide) wd_70 ?_
        refine tw_iload_n C dX7_set_25 1 rfl ?_
        refine tw_iload_n C dX7_set_26 2 rfl ?_
        refine tw_sipush C dX7_set_27 (v := nI 255) (by decide) ?_
        refine tw_iand C dX7_set_30 (v := nI (x % 256)) (nI_andm 8 (by decide)) ?_
        refine tw_rast C dX7_set_31 hr (hG _ (tw_row_lt hr).2) (hG _ (tw_row_lt1 hr)) (by omega) (Nat.mod_lt _ (by decide)) ?_
        exact tw_return (v := ()) C Q dX7_set_32 rfl rfl rfl
  · have hneg := nI_neg hi1 hi
    refine TW.wf (fun hwf => ?_)
    obtain ⟨hlen, hby⟩ := hwf r (hG r (tw_row_lt hr).2) hr
    have hcap := tw_row_cap hr
    refine tw_iload_n C dX7_set_0 1 rfl ?_
    refine tw_if_lt C dX7_set_1 (tgt := 32) (by decide) (fun c1 => ?_) (fun c1 => ?_)
    · skip
      exact tw_return (v := ()) C Q dX7_set_32 rfl rfl (by rw [set_out (by omega), tw_uR_self])
    · exact absurd hneg c1
theorem c_X7_add {G : tw_G} (hG : tw_cG G) {S : tw_S} {r : Nat} (hr : tw_isRow r = true) {x : Nat} : tw_M G yX7_add cX7_add 2 none 0 0 [.ref (tw_ad G r), .int (nI x)] S ri_V (fun _ S' => S' = tw_uR S r ((tw_R S r ++ [x % 256]).take (tw_cap r))) := by
  refine tw_M.of (L := [(0, .ref (tw_ad G r)), (1, .int (nI x))]) (by decide) (Nat.le_of_ble_eq_true rfl) rfl (fun X C N Q => ?_)
  have C : tw_C G X cX7_add RX7 := C
  refine TW.wf (fun hwf => ?_)
  obtain ⟨hlen, hby⟩ := hwf r (hG r (tw_row_lt hr).2) hr
  have hcap := tw_row_cap hr
  refine tw_aload_n C dX7_add_0 0 rfl ?_
  refine tw_getN (k := 1) C dX7_add_1 fc_X7 (tw_row_sh hr) (hG _ (tw_row_lt hr).2) rfl (by decide) wd_71 ?_
  refine tn_if_lt C dX7_add_4 (tgt := 43) (by decide) (by omega) (fun c1 => ?_) (fun c1 => ?_)
  · exact absurd c1 id
  refine tw_aload_n C dX7_add_7 0 rfl ?_
  refine tw_getN (k := 1) C dX7_add_8 fc_X7 (tw_row_sh hr) (hG _ (tw_row_lt hr).2) rfl (by decide) wd_71 ?_
  refine tw_aload_n C dX7_add_11 0 rfl ?_
  refine tw_getR (q := r + 1) (k := 0) C dX7_add_12 fc_X7 (tw_row_sh hr) (hG _ (tw_row_lt hr).2) rfl (by decide) wd_70 ?_
  refine tw_alen C dX7_add_15 (tw_row_a0 hr) (tw_row_ar hr) (Or.inr rfl) (hG _ (tw_row_lt1 hr)) ?_
  refine tn_icmp_ge C dX7_add_16 (tgt := 43) (by decide) (by omega) (by omega) (fun c2 => ?_) (fun c2 => ?_)
  · skip
    exact tw_return (v := ()) C Q dX7_add_43 rfl rfl (by rw [List.take_append_of_le_length (by omega), List.take_of_length_le (by omega), tw_uR_self])
  · skip
    refine tw_aload_n C dX7_add_19 0 rfl ?_
    refine tw_getR (q := r + 1) (k := 0) C dX7_add_20 fc_X7 (tw_row_sh hr) (hG _ (tw_row_lt hr).2) rfl (by decide) wd_70 ?_
    refine tw_aload_n C dX7_add_23 0 rfl ?_
    refine tw_getN (k := 1) C dX7_add_24 fc_X7 (tw_row_sh hr) (hG _ (tw_row_lt hr).2) rfl (by decide) wd_71 ?_
    refine tw_iload_n C dX7_add_27 1 rfl ?_
    refine tw_sipush C dX7_add_28 (v := nI 255) (by decide) ?_
    refine tw_iand C dX7_add_31 (v := nI (x % 256)) (nI_andm 8 (by decide)) ?_
    refine tw_radd (lv := []) C fc_X7 dX7_add_32 rfl dX7_add_33 rfl dX7_add_34 rfl dX7_add_35 rfl dX7_add_38 rfl dX7_add_39 rfl dX7_add_40 (pe := 43) rfl hr (hG _ (tw_row_lt hr).2) (hG _ (tw_row_lt1 hr)) (by decide) rfl wd_71 wd_71 rfl 0 rfl (by omega) (Nat.mod_lt _ (by decide)) ?_
    exact tw_return (v := ()) C Q dX7_add_43 rfl rfl (by rw [List.take_of_length_le (by simp; omega)])
theorem c_X7_shorten {G : tw_G} (hG : tw_cG G) {S : tw_S} {r : Nat} (hr : tw_isRow r = true) {i : Nat} (hi : i < 2 ^ 31) : tw_M G yX7_shorten cX7_shorten 2 none 0 0 [.ref (tw_ad G r), .int (nI i)] S ri_V (fun _ S' => S' = tw_uR S r ((tw_R S r).take i)) := by
  refine tw_M.of (L := [(0, .ref (tw_ad G r)), (1, .int (nI i))]) (by decide) (Nat.le_of_ble_eq_true rfl) rfl (fun X C N Q => ?_)
  have C : tw_C G X cX7_shorten RX7 := C
  refine TW.wf (fun hwf => ?_)
  obtain ⟨hlen, hby⟩ := hwf r (hG r (tw_row_lt hr).2) hr
  have hcap := tw_row_cap hr
  refine tw_iload_n C dX7_shorten_0 1 rfl ?_
  refine tn_if_lt C dX7_shorten_1 (tgt := 17) (by decide) (by omega) (fun c1 => ?_) (fun c1 => ?_)
  · exact absurd c1 id
  refine tw_iload_n C dX7_shorten_4 1 rfl ?_
  refine tw_aload_n C dX7_shorten_5 0 rfl ?_
  refine tw_getN (k := 1) C dX7_shorten_6 fc_X7 (tw_row_sh hr) (hG _ (tw_row_lt hr).2) rfl (by decide) wd_71 ?_
  refine tn_icmp_ge C dX7_shorten_9 (tgt := 17) (by decide) (by omega) (by omega) (fun c2 => ?_) (fun c2 => ?_)
  · skip
    exact tw_return (v := ()) C Q dX7_shorten_17 rfl rfl (by rw [List.take_of_length_le (by omega), tw_uR_self])
  · skip
    refine tw_aload_n C dX7_shorten_12 0 rfl ?_
    refine tw_iload_n C dX7_shorten_13 1 rfl ?_
    refine tw_putN C dX7_shorten_14 fc_X7 hr (hG _ (tw_row_lt hr).2) (by decide) rfl wd_71 rfl (by omega) ?_
    exact tw_return (v := ()) C Q dX7_shorten_17 rfl rfl rfl
theorem c_X7_becomeZeros {G : tw_G} (hG : tw_cG G) {S : tw_S} {r : Nat} (hr : tw_isRow r = true) {i : Nat} (hi : i < 2 ^ 31) : tw_M G yX7_becomeZeros cX7_becomeZeros 3 none 1 21 [.ref (tw_ad G r), .int (nI i)] S ri_V (fun _ S' => S' = tw_uR S r ((List.replicate i 0).take (tw_cap r))) := by
  refine tw_M.of (L := [(0, .ref (tw_ad G r)), (1, .int (nI i))]) (by decide) (Nat.le_of_ble_eq_true rfl) rfl (fun X C N Q => ?_)
  have C : tw_C G X cX7_becomeZeros RX7 := C
  have loop : ∀ (d : Nat) (k : Nat) (_ : k + d = i), TW G X (tw_uR S r ((List.replicate k 0).take (tw_cap r))) [(2, .int (nI k)), (0, .ref (tw_ad G r)), (1, .int (nI i))] 7 [] := by
    intro d
    induction d with
    | zero =>
      intro k hk
      refine tw_iload_n C dX7_becomeZeros_7 0 rfl ?_
      refine tw_iload_n C dX7_becomeZeros_8 2 rfl ?_
      refine tn_icmp_ge C dX7_becomeZeros_9 (tgt := 23) (by decide) (by omega) (by omega) (fun c1 => ?_) (fun c1 => ?_)
      · skip
        exact tw_return (v := ()) C Q dX7_becomeZeros_23 rfl rfl (by rw [show k = i by omega])
      · exact absurd c1 (by omega)
    | succ d ih =>
      intro k hk
      refine tw_iload_n C dX7_becomeZeros_7 0 rfl ?_
      refine tw_iload_n C dX7_becomeZeros_8 2 rfl ?_
      refine tn_icmp_ge C dX7_becomeZeros_9 (tgt := 23) (by decide) (by omega) (by omega) (fun c1 => ?_) (fun c1 => ?_)
      · exact absurd c1 (by omega)
      refine tw_aload_n C dX7_becomeZeros_12 1 rfl ?_
      refine tw_iconst C dX7_becomeZeros_13 (v := nI 0) (by decide) ?_
      refine tw_callV (As := [.int (nI 0)]) (rest := []) C N (c_X7_add hG (S := tw_uR S r ((List.replicate k 0).take (tw_cap r))) hr (x := 0)) mm_X7_add wd_178 rfl (hG _ (tw_row_lt hr).2) (tw_row_sh hr) rfl (by decide) rfl (Nat.le_of_ble_eq_true rfl) dX7_becomeZeros_14 ?_
      rintro _ _ rfl
      show TW G X (tw_uR (tw_uR S r ((List.replicate k 0).take (tw_cap r))) r ((tw_R (tw_uR S r ((List.replicate k 0).take (tw_cap r))) r ++ [0 % 256]).take (tw_cap r))) [(2, .int (nI k)), (0, .ref (tw_ad G r)), (1, .int (nI i))] 17 []
      refine tw_iinc (k := 0) (v := nI (k + 1)) (L' := [(2, .int (nI (k + 1))), (0, .ref (tw_ad G r)), (1, .int (nI i))]) C N dX7_becomeZeros_17 rfl (tn_inc1 _) (by decide) rfl ?_
      refine tw_goto C dX7_becomeZeros_20 (tgt := 7) (by decide) ?_
      refine TW.sS (S' := tw_uR S r ((List.replicate (k + 1) 0).take (tw_cap r))) (by rw [tw_uR_uR, tq_uR_same, tk_tk, rep_succ]) ?_
      exact ih (k + 1) (by omega)
  refine TW.wf (fun hwf => ?_)
  obtain ⟨hlen, hby⟩ := hwf r (hG r (tw_row_lt hr).2) hr
  have hcap := tw_row_cap hr
  refine tw_aload_n C dX7_becomeZeros_0 0 rfl ?_
  refine tw_iconst C dX7_becomeZeros_1 (v := nI 0) (by decide) ?_
  refine tw_putN C dX7_becomeZeros_2 fc_X7 hr (hG _ (tw_row_lt hr).2) (by decide) rfl wd_71 rfl (Nat.zero_le _) ?_
  refine tw_iconst C dX7_becomeZeros_5 (v := nI 0) (by decide) ?_
  refine tw_istore_n (L' := [(2, .int (nI 0)), (0, .ref (tw_ad G r)), (1, .int (nI i))]) C N dX7_becomeZeros_6 rfl (by decide) rfl ?_
  refine TW.sS (S' := tw_uR S r ((List.replicate 0 0).take (tw_cap r))) (by simp) ?_
  exact loop i 0 (by omega)
theorem c_X7_addAll {G : tw_G} (hG : tw_cG G) {S : tw_S} {r : Nat} (hr : tw_isRow r = true) {q : Nat} (hq : tw_isRow q = true) (hne : q ≠ r) {a e : Nat} (ha : a < 2 ^ 30) (he : e < 2 ^ 30) : tw_M G yX7_addAll cX7_addAll 5 none 1 21 [.ref (tw_ad G r), .ref (tw_ad G q), .int (nI a), .int (nI e)] S ri_V (fun _ S' => S' = tw_uR S r ((tw_R S r ++ cutD (tw_R S q) a (e - a)).take (tw_cap r))) := by
  refine tw_M.of (L := [(0, .ref (tw_ad G r)), (1, .ref (tw_ad G q)), (2, .int (nI a)), (3, .int (nI e))]) (by decide) (Nat.le_of_ble_eq_true rfl) rfl (fun X C N Q => ?_)
  have C : tw_C G X cX7_addAll RX7 := C
  refine TW.wf (fun hwf => ?_)
  obtain ⟨hlen, hby⟩ := hwf r (hG r (tw_row_lt hr).2) hr
  have hcap := tw_row_cap hr
  have loop : ∀ (d : Nat) (k : Nat) (_ : a + k + d = max a e), TW G X (tw_uR S r ((tw_R S r ++ cutD (tw_R S q) a k).take (tw_cap r))) [(4, .int (nI (a + k))), (0, .ref (tw_ad G r)), (1, .ref (tw_ad G q)), (2, .int (nI a)), (3, .int (nI e))] 3 [] := by
    intro d
    induction d with
    | zero =>
      intro k hk
      refine tw_iload C dX7_addAll_3 0 rfl ?_
      refine tw_iload_n C dX7_addAll_5 4 rfl ?_
      refine tn_icmp_ge C dX7_addAll_6 (tgt := 25) (by decide) (by omega) (by omega) (fun c1 => ?_) (fun c1 => ?_)
      · skip
        exact tw_return (v := ()) C Q dX7_addAll_25 rfl rfl (by rw [show k = e - a by omega])
      · exact absurd c1 (by omega)
    | succ d ih =>
      intro k hk
      refine tw_iload C dX7_addAll_3 0 rfl ?_
      refine tw_iload_n C dX7_addAll_5 4 rfl ?_
      refine tn_icmp_ge C dX7_addAll_6 (tgt := 25) (by decide) (by omega) (by omega) (fun c1 => ?_) (fun c1 => ?_)
      · exact absurd c1 (by omega)
      refine tw_aload_n C dX7_addAll_9 1 rfl ?_
      refine tw_aload_n C dX7_addAll_10 2 rfl ?_
      refine tw_iload C dX7_addAll_11 0 rfl ?_
      refine tw_callV (As := [.int (nI (a + k))]) (rest := [.ref (tw_ad G r)]) C N (c_X7_at hG (S := tw_uR S r ((tw_R S r ++ cutD (tw_R S q) a k).take (tw_cap r))) hq (i := a + k) (by omega)) mm_X7_at wd_208 rfl (hG _ (tw_row_lt hq).2) (tw_row_sh hq) rfl (by decide) rfl (Nat.le_of_ble_eq_true rfl) dX7_addAll_13 ?_
      rintro _ _ ⟨rfl, rfl⟩
      show TW G X (tw_uR S r ((tw_R S r ++ cutD (tw_R S q) a k).take (tw_cap r))) [(4, .int (nI (a + k))), (0, .ref (tw_ad G r)), (1, .ref (tw_ad G q)), (2, .int (nI a)), (3, .int (nI e))] 16 [.int (nI ((tw_R (tw_uR S r ((tw_R S r ++ cutD (tw_R S q) a k).take (tw_cap r))) q).getD (a + k) 0)), .ref (tw_ad G r)]
      refine tw_callV (As := [.int (nI ((tw_R (tw_uR S r ((tw_R S r ++ cutD (tw_R S q) a k).take (tw_cap r))) q).getD (a + k) 0))]) (rest := []) C N (c_X7_add hG (S := tw_uR S r ((tw_R S r ++ cutD (tw_R S q) a k).take (tw_cap r))) hr (x := (tw_R (tw_uR S r ((tw_R S r ++ cutD (tw_R S q) a k).take (tw_cap r))) q).getD (a + k) 0)) mm_X7_add wd_178 rfl (hG _ (tw_row_lt hr).2) (tw_row_sh hr) rfl (by decide) rfl (Nat.le_of_ble_eq_true rfl) dX7_addAll_16 ?_
      rintro _ _ rfl
      show TW G X (tw_uR (tw_uR S r ((tw_R S r ++ cutD (tw_R S q) a k).take (tw_cap r))) r ((tw_R (tw_uR S r ((tw_R S r ++ cutD (tw_R S q) a k).take (tw_cap r))) r ++ [((tw_R (tw_uR S r ((tw_R S r ++ cutD (tw_R S q) a k).take (tw_cap r))) q).getD (a + k) 0) % 256]).take (tw_cap r))) [(4, .int (nI (a + k))), (0, .ref (tw_ad G r)), (1, .ref (tw_ad G q)), (2, .int (nI a)), (3, .int (nI e))] 19 []
      refine tw_iinc (k := 0) (v := nI (a + k + 1)) (L' := [(4, .int (nI (a + k + 1))), (0, .ref (tw_ad G r)), (1, .ref (tw_ad G q)), (2, .int (nI a)), (3, .int (nI e))]) C N dX7_addAll_19 rfl (tn_inc1 _) (by decide) rfl ?_
      refine tw_goto C dX7_addAll_22 (tgt := 3) (by decide) ?_
      refine TW.sS (S' := tw_uR S r ((tw_R S r ++ cutD (tw_R S q) a (k + 1)).take (tw_cap r))) (by rw [tw_uR_uR, tq_uR_same, tq_uR_ne _ _ hne, tk_tk, cutD_succ, Nat.mod_eq_of_lt (getD_in (hwf q (hG q (tw_row_lt hq).2) hq).2 _), List.append_assoc]) ?_
      exact ih (k + 1) (by omega)
  refine tw_iload_n C dX7_addAll_0 2 rfl ?_
  refine tw_istore (L' := [(4, .int (nI a)), (0, .ref (tw_ad G r)), (1, .ref (tw_ad G q)), (2, .int (nI a)), (3, .int (nI e))]) C N dX7_addAll_1 (i := 4) (by decide) rfl ?_
  refine TW.sS (S' := tw_uR S r ((tw_R S r ++ cutD (tw_R S q) a 0).take (tw_cap r))) (by simp [cutD, List.take_of_length_le hlen, tw_uR_self]) ?_
  exact loop (e - a) 0 (by omega)
theorem c_X7_become {G : tw_G} (hG : tw_cG G) {S : tw_S} {r : Nat} (hr : tw_isRow r = true) {q : Nat} (hq : tw_isRow q = true) (hne : q ≠ r) : tw_M G yX7_become cX7_become 2 none 2 45 [.ref (tw_ad G r), .ref (tw_ad G q)] S ri_V (fun _ S' => S' = tw_uR S r ((tw_R S q).take (tw_cap r))) := by
  refine tw_M.of (L := [(0, .ref (tw_ad G r)), (1, .ref (tw_ad G q))]) (by decide) (Nat.le_of_ble_eq_true rfl) rfl (fun X C N Q => ?_)
  have C : tw_C G X cX7_become RX7 := C
  refine TW.wf (fun hwf => ?_)
  obtain ⟨hlen, hby⟩ := hwf r (hG r (tw_row_lt hr).2) hr
  have hcap := tw_row_cap hr
  obtain ⟨hlenq, hbyq⟩ := hwf q (hG q (tw_row_lt hq).2) hq
  have hcapq := tw_row_cap hq
  refine tw_aload_n C dX7_become_0 0 rfl ?_
  refine tw_iconst C dX7_become_1 (v := nI 0) (by decide) ?_
  refine tw_putN C dX7_become_2 fc_X7 hr (hG _ (tw_row_lt hr).2) (by decide) rfl wd_71 rfl (Nat.zero_le _) ?_
  refine tw_aload_n C dX7_become_5 0 rfl ?_
  refine tw_aload_n C dX7_become_6 1 rfl ?_
  refine tw_iconst C dX7_become_7 (v := nI 0) (by decide) ?_
  refine tw_aload_n C dX7_become_8 1 rfl ?_
  refine tw_callV (As := []) (rest := [.int (nI 0), .ref (tw_ad G q), .ref (tw_ad G r)]) C N (c_X7_length hG (S := tw_uR S r ((tw_R S r).take 0)) hq) mm_X7_length wd_314 rfl (hG _ (tw_row_lt hq).2) (tw_row_sh hq) rfl (by decide) rfl (Nat.le_of_ble_eq_true rfl) dX7_become_9 ?_
  rintro _ _ ⟨rfl, rfl⟩
  show TW G X (tw_uR S r ((tw_R S r).take 0)) [(0, .ref (tw_ad G r)), (1, .ref (tw_ad G q))] 12 [.int (nI ((tw_R (tw_uR S r ((tw_R S r).take 0)) q).length)), .int (nI 0), .ref (tw_ad G q), .ref (tw_ad G r)]
  have hlq : (tw_R (tw_uR S r ((tw_R S r).take 0)) q).length ≤ 640 := by rw [tq_uR_ne _ _ hne]; omega
  refine tw_callV (As := [.ref (tw_ad G q), .int (nI 0), .int (nI ((tw_R (tw_uR S r ((tw_R S r).take 0)) q).length))]) (rest := []) C N (c_X7_addAll hG (S := tw_uR S r ((tw_R S r).take 0)) hr hq hne (a := 0) (e := (tw_R (tw_uR S r ((tw_R S r).take 0)) q).length) (by omega) (by omega)) mm_X7_addAll wd_315 rfl (hG _ (tw_row_lt hr).2) (tw_row_sh hr) rfl (by decide) rfl (Nat.le_of_ble_eq_true rfl) dX7_become_12 ?_
  rintro _ _ rfl
  show TW G X (tw_uR (tw_uR S r ((tw_R S r).take 0)) r ((tw_R (tw_uR S r ((tw_R S r).take 0)) r ++ cutD (tw_R (tw_uR S r ((tw_R S r).take 0)) q) 0 (((tw_R (tw_uR S r ((tw_R S r).take 0)) q).length) - 0)).take (tw_cap r))) [(0, .ref (tw_ad G r)), (1, .ref (tw_ad G q))] 15 []
  exact tw_return (v := ()) C Q dX7_become_15 rfl rfl (by rw [tw_uR_uR, tq_uR_same, tq_uR_ne _ _ hne, Nat.sub_zero, cutD_all, List.take_zero, List.nil_append])
theorem c_X7_number {G : tw_G} (hG : tw_cG G) {S : tw_S} {r : Nat} (hr : tw_isRow r = true) {f i : Nat} (hf : f < 2 ^ 30) (hi : i ≤ 8) : tw_M G yX7_number cX7_number 6 (some .long) 1 21 [.ref (tw_ad G r), .int (nI f), .int (nI i)] S ri_J (fun v S' => v = lN (nb (tw_R S r) f i) ∧ S = S') := by
  refine tw_M.of (L := [(0, .ref (tw_ad G r)), (1, .int (nI f)), (2, .int (nI i))]) (by decide) (Nat.le_of_ble_eq_true rfl) rfl (fun X C N Q => ?_)
  have C : tw_C G X cX7_number RX7 := C
  refine TW.wf (fun hwf => ?_)
  obtain ⟨hlen, hby⟩ := hwf r (hG r (tw_row_lt hr).2) hr
  have hcap := tw_row_cap hr
  have loop : ∀ (d : Nat) (k : Nat) (_ : k + d = i), TW G X S [(5, .int (nI k)), (3, .long (lN (nb (tw_R S r) f k))), (0, .ref (tw_ad G r)), (1, .int (nI f)), (2, .int (nI i))] 5 [] := by
    intro d
    induction d with
    | zero =>
      intro k hk
      refine tw_iload C dX7_number_5 0 rfl ?_
      refine tw_iload_n C dX7_number_7 4 rfl ?_
      refine tn_icmp_ge C dX7_number_8 (tgt := 32) (by decide) (by omega) (by omega) (fun c1 => ?_) (fun c1 => ?_)
      · skip
        refine tw_lload_n C dX7_number_32 1 rfl ?_
        exact tw_lreturn C Q dX7_number_33 rfl rfl ⟨by rw [show k = i by omega], rfl⟩
      · exact absurd c1 (by omega)
    | succ d ih =>
      intro k hk
      refine tw_iload C dX7_number_5 0 rfl ?_
      refine tw_iload_n C dX7_number_7 4 rfl ?_
      refine tn_icmp_ge C dX7_number_8 (tgt := 32) (by decide) (by omega) (by omega) (fun c1 => ?_) (fun c1 => ?_)
      · exact absurd c1 (by omega)
      have hx := getD_in hby (f + k)
      refine tw_lload_n C dX7_number_11 1 rfl ?_
      refine tw_bipush C dX7_number_12 (v := nI 8) (by decide) ?_
      refine tw_lshl C dX7_number_14 (v := lN ((nb (tw_R S r) f k) * 256)) (lN_shl _ 8 (by decide)) ?_
      refine tw_aload_n C dX7_number_15 2 rfl ?_
      refine tw_iload_n C dX7_number_16 3 rfl ?_
      refine tw_iload C dX7_number_17 0 rfl ?_
      refine tw_iadd C dX7_number_19 (v := nI (f + k)) (nI_add _ _) ?_
      refine tw_callV (As := [.int (nI (f + k))]) (rest := [.long (lN ((nb (tw_R S r) f k) * 256))]) C N (c_X7_at hG (S := S) hr (i := f + k) (by omega)) mm_X7_at wd_208 rfl (hG _ (tw_row_lt hr).2) (tw_row_sh hr) rfl (by decide) rfl (Nat.le_of_ble_eq_true rfl) dX7_number_20 ?_
      rintro _ _ ⟨rfl, rfl⟩
      show TW G X S [(5, .int (nI k)), (3, .long (lN (nb (tw_R S r) f k))), (0, .ref (tw_ad G r)), (1, .int (nI f)), (2, .int (nI i))] 23 [.int (nI ((tw_R S r).getD (f + k) 0)), .long (lN ((nb (tw_R S r) f k) * 256))]
      refine tw_i2l C dX7_number_23 (v := lN ((tw_R S r).getD (f + k) 0)) (nI_i64 (by omega)) ?_
      refine tw_lor C dX7_number_24 (v := lN (nb (tw_R S r) f (k + 1))) (by rw [lN_or, or256 hx]; rfl) ?_
      refine tw_lstore_n (L' := [(3, .long (lN (nb (tw_R S r) f (k + 1)))), (5, .int (nI k)), (0, .ref (tw_ad G r)), (1, .int (nI f)), (2, .int (nI i))]) C N dX7_number_25 rfl (by decide) rfl ?_
      refine tw_iinc (k := 1) (v := nI (k + 1)) (L' := [(5, .int (nI (k + 1))), (3, .long (lN (nb (tw_R S r) f (k + 1)))), (0, .ref (tw_ad G r)), (1, .int (nI f)), (2, .int (nI i))]) C N dX7_number_26 rfl (tn_inc1 _) (by decide) rfl ?_
      refine tw_goto C dX7_number_29 (tgt := 5) (by decide) ?_
      exact ih (k + 1) (by omega)
  refine tw_lconst C dX7_number_0 (v := lN 0) rfl ?_
  refine tw_lstore_n (L' := [(3, .long (lN 0)), (0, .ref (tw_ad G r)), (1, .int (nI f)), (2, .int (nI i))]) C N dX7_number_1 rfl (by decide) rfl ?_
  refine tw_iconst C dX7_number_2 (v := nI 0) (by decide) ?_
  refine tw_istore (L' := [(5, .int (nI 0)), (3, .long (lN 0)), (0, .ref (tw_ad G r)), (1, .int (nI f)), (2, .int (nI i))]) C N dX7_number_3 (i := 5) (by decide) rfl ?_
  exact loop i 0 (by omega)
theorem c_X7_addNumber {G : tw_G} (hG : tw_cG G) {S : tw_S} {r : Nat} (hr : tw_isRow r = true) {v i : Nat} (hv : v < 2 ^ 64) (hi : i ≤ 8) : tw_M G yX7_addNumber cX7_addNumber 5 none 1 21 [.ref (tw_ad G r), .long (lN v), .int (nI i)] S ri_V (fun _ S' => S' = tw_uR S r ((tw_R S r ++ be v i).take (tw_cap r))) := by
  refine tw_M.of (L := [(0, .ref (tw_ad G r)), (1, .long (lN v)), (3, .int (nI i))]) (by decide) (Nat.le_of_ble_eq_true rfl) rfl (fun X C N Q => ?_)
  have C : tw_C G X cX7_addNumber RX7 := C
  refine TW.wf (fun hwf => ?_)
  obtain ⟨hlen, hby⟩ := hwf r (hG r (tw_row_lt hr).2) hr
  have hcap := tw_row_cap hr
  have loop : ∀ (d : Nat) (k : Nat) (_ : k + d = i), TW G X (tw_uR S r ((tw_R S r ++ (be v i).take k).take (tw_cap r))) [(4, .int (nI k)), (0, .ref (tw_ad G r)), (1, .long (lN v)), (3, .int (nI i))] 3 [] := by
    intro d
    induction d with
    | zero =>
      intro k hk
      refine tw_iload C dX7_addNumber_3 0 rfl ?_
      refine tw_iload_n C dX7_addNumber_5 3 rfl ?_
      refine tn_icmp_ge C dX7_addNumber_6 (tgt := 31) (by decide) (by omega) (by omega) (fun c1 => ?_) (fun c1 => ?_)
      · skip
        exact tw_return (v := ()) C Q dX7_addNumber_31 rfl rfl (by rw [show k = i by omega, List.take_of_length_le (l := be v i) (by rw [be_len]; omega)])
      · exact absurd c1 (by omega)
    | succ d ih =>
      intro k hk
      refine tw_iload C dX7_addNumber_3 0 rfl ?_
      refine tw_iload_n C dX7_addNumber_5 3 rfl ?_
      refine tn_icmp_ge C dX7_addNumber_6 (tgt := 31) (by decide) (by omega) (by omega) (fun c1 => ?_) (fun c1 => ?_)
      · exact absurd c1 (by omega)
      refine tw_aload_n C dX7_addNumber_9 1 rfl ?_
      refine tw_lload_n C dX7_addNumber_10 2 rfl ?_
      refine tw_bipush C dX7_addNumber_11 (v := nI 8) (by decide) ?_
      refine tw_iload_n C dX7_addNumber_13 3 rfl ?_
      refine tw_iconst C dX7_addNumber_14 (v := nI 1) (by decide) ?_
      refine tw_isub C dX7_addNumber_15 (v := nI (i - 1)) (pk_sub (by omega)) ?_
      refine tw_iload C dX7_addNumber_16 0 rfl ?_
      refine tw_isub C dX7_addNumber_18 (v := nI ((i - 1) - k)) (pk_sub (by omega)) ?_
      refine tw_imul C dX7_addNumber_19 (v := nI (8 * ((i - 1) - k))) (pk_mul _ _) ?_
      refine tw_lushr C dX7_addNumber_20 (v := lN (v / 2 ^ (8 * ((i - 1) - k)))) (lN_ushr hv (8 * ((i - 1) - k)) (by omega)) ?_
      refine tw_l2i C dX7_addNumber_21 (v := nI (v / 2 ^ (8 * ((i - 1) - k)))) (lN_i32 _) ?_
      refine tw_callV (As := [.int (nI (v / 2 ^ (8 * ((i - 1) - k))))]) (rest := []) C N (c_X7_add hG (S := tw_uR S r ((tw_R S r ++ (be v i).take k).take (tw_cap r))) hr (x := v / 2 ^ (8 * ((i - 1) - k)))) mm_X7_add wd_178 rfl (hG _ (tw_row_lt hr).2) (tw_row_sh hr) rfl (by decide) rfl (Nat.le_of_ble_eq_true rfl) dX7_addNumber_22 ?_
      rintro _ _ rfl
      show TW G X (tw_uR (tw_uR S r ((tw_R S r ++ (be v i).take k).take (tw_cap r))) r ((tw_R (tw_uR S r ((tw_R S r ++ (be v i).take k).take (tw_cap r))) r ++ [(v / 2 ^ (8 * ((i - 1) - k))) % 256]).take (tw_cap r))) [(4, .int (nI k)), (0, .ref (tw_ad G r)), (1, .long (lN v)), (3, .int (nI i))] 25 []
      refine tw_iinc (k := 0) (v := nI (k + 1)) (L' := [(4, .int (nI (k + 1))), (0, .ref (tw_ad G r)), (1, .long (lN v)), (3, .int (nI i))]) C N dX7_addNumber_25 rfl (tn_inc1 _) (by decide) rfl ?_
      refine tw_goto C dX7_addNumber_28 (tgt := 3) (by decide) ?_
      refine TW.sS (S' := tw_uR S r ((tw_R S r ++ (be v i).take (k + 1)).take (tw_cap r))) (by rw [tw_uR_uR, tq_uR_same, tk_tk, be_take (by omega), List.append_assoc]) ?_
      exact ih (k + 1) (by omega)
  refine tw_iconst C dX7_addNumber_0 (v := nI 0) (by decide) ?_
  refine tw_istore (L' := [(4, .int (nI 0)), (0, .ref (tw_ad G r)), (1, .long (lN v)), (3, .int (nI i))]) C N dX7_addNumber_1 (i := 4) (by decide) rfl ?_
  refine TW.sS (S' := tw_uR S r ((tw_R S r ++ (be v i).take 0).take (tw_cap r))) (by simp [List.take_of_length_le hlen, tw_uR_self]) ?_
  exact loop i 0 (by omega)
theorem c_X7_setNumber {G : tw_G} (hG : tw_cG G) {S : tw_S} {r : Nat} (hr : tw_isRow r = true) {f v i : Nat} (hf : f < 2 ^ 30) (hv : v < 2 ^ 64) (hi : i ≤ 8) : tw_M G yX7_setNumber cX7_setNumber 6 none 1 22 [.ref (tw_ad G r), .int (nI f), .long (lN v), .int (nI i)] S ri_V (fun _ S' => S' = tw_uR S r (setN (tw_R S r) f (be v i))) := by
  refine tw_M.of (L := [(0, .ref (tw_ad G r)), (1, .int (nI f)), (2, .long (lN v)), (4, .int (nI i))]) (by decide) (Nat.le_of_ble_eq_true rfl) rfl (fun X C N Q => ?_)
  have C : tw_C G X cX7_setNumber RX7 := C
  refine TW.wf (fun hwf => ?_)
  obtain ⟨hlen, hby⟩ := hwf r (hG r (tw_row_lt hr).2) hr
  have hcap := tw_row_cap hr
  have loop : ∀ (d : Nat) (k : Nat) (_ : k + d = i), TW G X (tw_uR S r (setN (tw_R S r) f ((be v i).take k))) [(5, .int (nI k)), (0, .ref (tw_ad G r)), (1, .int (nI f)), (2, .long (lN v)), (4, .int (nI i))] 3 [] := by
    intro d
    induction d with
    | zero =>
      intro k hk
      refine tw_iload C dX7_setNumber_3 0 rfl ?_
      refine tw_iload C dX7_setNumber_5 4 rfl ?_
      refine tn_icmp_ge C dX7_setNumber_7 (tgt := 37) (by decide) (by omega) (by omega) (fun c1 => ?_) (fun c1 => ?_)
      · skip
        exact tw_return (v := ()) C Q dX7_setNumber_37 rfl rfl (by rw [show k = i by omega, List.take_of_length_le (l := be v i) (by rw [be_len]; omega)])
      · exact absurd c1 (by omega)
    | succ d ih =>
      intro k hk
      refine tw_iload C dX7_setNumber_3 0 rfl ?_
      refine tw_iload C dX7_setNumber_5 4 rfl ?_
      refine tn_icmp_ge C dX7_setNumber_7 (tgt := 37) (by decide) (by omega) (by omega) (fun c1 => ?_) (fun c1 => ?_)
      · exact absurd c1 (by omega)
      refine tw_aload_n C dX7_setNumber_10 1 rfl ?_
      refine tw_iload_n C dX7_setNumber_11 2 rfl ?_
      refine tw_iload C dX7_setNumber_12 0 rfl ?_
      refine tw_iadd C dX7_setNumber_14 (v := nI (f + k)) (nI_add _ _) ?_
      refine tw_lload_n C dX7_setNumber_15 3 rfl ?_
      refine tw_bipush C dX7_setNumber_16 (v := nI 8) (by decide) ?_
      refine tw_iload C dX7_setNumber_18 4 rfl ?_
      refine tw_iconst C dX7_setNumber_20 (v := nI 1) (by decide) ?_
      refine tw_isub C dX7_setNumber_21 (v := nI (i - 1)) (pk_sub (by omega)) ?_
      refine tw_iload C dX7_setNumber_22 0 rfl ?_
      refine tw_isub C dX7_setNumber_24 (v := nI ((i - 1) - k)) (pk_sub (by omega)) ?_
      refine tw_imul C dX7_setNumber_25 (v := nI (8 * ((i - 1) - k))) (pk_mul _ _) ?_
      refine tw_lushr C dX7_setNumber_26 (v := lN (v / 2 ^ (8 * ((i - 1) - k)))) (lN_ushr hv (8 * ((i - 1) - k)) (by omega)) ?_
      refine tw_l2i C dX7_setNumber_27 (v := nI (v / 2 ^ (8 * ((i - 1) - k)))) (lN_i32 _) ?_
      refine tw_callV (As := [.int (nI (f + k)), .int (nI (v / 2 ^ (8 * ((i - 1) - k))))]) (rest := []) C N (c_X7_set hG (S := tw_uR S r (setN (tw_R S r) f ((be v i).take k))) hr (x := v / 2 ^ (8 * ((i - 1) - k))) (i := f + k) (by omega)) mm_X7_set wd_419 rfl (hG _ (tw_row_lt hr).2) (tw_row_sh hr) rfl (by decide) rfl (Nat.le_of_ble_eq_true rfl) dX7_setNumber_28 ?_
      rintro _ _ rfl
      show TW G X (tw_uR (tw_uR S r (setN (tw_R S r) f ((be v i).take k))) r ((tw_R (tw_uR S r (setN (tw_R S r) f ((be v i).take k))) r).set (f + k) ((v / 2 ^ (8 * ((i - 1) - k))) % 256))) [(5, .int (nI k)), (0, .ref (tw_ad G r)), (1, .int (nI f)), (2, .long (lN v)), (4, .int (nI i))] 31 []
      refine tw_iinc (k := 0) (v := nI (k + 1)) (L' := [(5, .int (nI (k + 1))), (0, .ref (tw_ad G r)), (1, .int (nI f)), (2, .long (lN v)), (4, .int (nI i))]) C N dX7_setNumber_31 rfl (tn_inc1 _) (by decide) rfl ?_
      refine tw_goto C dX7_setNumber_34 (tgt := 3) (by decide) ?_
      refine TW.sS (S' := tw_uR S r (setN (tw_R S r) f ((be v i).take (k + 1)))) (by rw [tw_uR_uR, tq_uR_same, be_take (by omega), setN_snoc, List.length_take, be_len, Nat.min_eq_left (by omega)]) ?_
      exact ih (k + 1) (by omega)
  refine tw_iconst C dX7_setNumber_0 (v := nI 0) (by decide) ?_
  refine tw_istore (L' := [(5, .int (nI 0)), (0, .ref (tw_ad G r)), (1, .int (nI f)), (2, .long (lN v)), (4, .int (nI i))]) C N dX7_setNumber_1 (i := 5) (by decide) rfl ?_
  refine TW.sS (S' := tw_uR S r (setN (tw_R S r) f ((be v i).take 0))) (by simp [setN, tw_uR_self]) ?_
  exact loop i 0 (by omega)
theorem e_X7_length {G : tw_G} (hG : tw_cG G) {S : tw_S} {r : Nat} (hr : tw_isRow r = true) {xs : List Nat} (hx : tw_R S r = xs)  : tw_M G yX7_length cX7_length 1 (some .int) 0 0 [.ref (tw_ad G r)] S ri_I (fun v S' => v = nI xs.length ∧ S = S') := by
  subst hx; exact c_X7_length hG hr 
theorem e_X7_has {G : tw_G} (hG : tw_cG G) {S : tw_S} {r : Nat} (hr : tw_isRow r = true) {xs : List Nat} (hx : tw_R S r = xs) {i : Nat} (hi : i < 2 ^ 32) : tw_M G yX7_has cX7_has 2 (some .boolean) 0 0 [.ref (tw_ad G r), .int (nI i)] S ri_I (fun v S' => v = bI (decide (i < xs.length)) ∧ S = S') := by
  subst hx; exact c_X7_has hG hr hi
theorem e_X7_takes {G : tw_G} (hG : tw_cG G) {S : tw_S} {r : Nat} (hr : tw_isRow r = true) {xs : List Nat} (hx : tw_R S r = xs) {i : Nat} (hi : i < 2 ^ 31) : tw_M G yX7_takes cX7_takes 2 (some .boolean) 0 0 [.ref (tw_ad G r), .int (nI i)] S ri_I (fun v S' => v = bI (decide (i + xs.length ≤ tw_cap r)) ∧ S = S') := by
  subst hx; exact c_X7_takes hG hr hi
theorem e_X7_at {G : tw_G} (hG : tw_cG G) {S : tw_S} {r : Nat} (hr : tw_isRow r = true) {xs : List Nat} (hx : tw_R S r = xs) {i : Nat} (hi : i < 2 ^ 32) : tw_M G yX7_at cX7_at 2 (some .int) 0 0 [.ref (tw_ad G r), .int (nI i)] S ri_I (fun v S' => v = nI (xs.getD i 0) ∧ S = S') := by
  subst hx; exact c_X7_at hG hr hi
theorem e_X7_set {G : tw_G} (hG : tw_cG G) {S : tw_S} {r : Nat} (hr : tw_isRow r = true) {xs : List Nat} (hx : tw_R S r = xs) {x i : Nat} (hi : i < 2 ^ 32) : tw_M G yX7_set cX7_set 3 none 0 0 [.ref (tw_ad G r), .int (nI i), .int (nI x)] S ri_V (fun _ S' => S' = tw_uR S r (xs.set i (x % 256))) := by
  subst hx; exact c_X7_set hG hr hi
theorem e_X7_add {G : tw_G} (hG : tw_cG G) {S : tw_S} {r : Nat} (hr : tw_isRow r = true) {xs : List Nat} (hx : tw_R S r = xs) {x : Nat} : tw_M G yX7_add cX7_add 2 none 0 0 [.ref (tw_ad G r), .int (nI x)] S ri_V (fun _ S' => S' = tw_uR S r ((xs ++ [x % 256]).take (tw_cap r))) := by
  subst hx; exact c_X7_add hG hr 
theorem e_X7_shorten {G : tw_G} (hG : tw_cG G) {S : tw_S} {r : Nat} (hr : tw_isRow r = true) {xs : List Nat} (hx : tw_R S r = xs) {i : Nat} (hi : i < 2 ^ 31) : tw_M G yX7_shorten cX7_shorten 2 none 0 0 [.ref (tw_ad G r), .int (nI i)] S ri_V (fun _ S' => S' = tw_uR S r (xs.take i)) := by
  subst hx; exact c_X7_shorten hG hr hi
theorem e_X7_number {G : tw_G} (hG : tw_cG G) {S : tw_S} {r : Nat} (hr : tw_isRow r = true) {xs : List Nat} (hx : tw_R S r = xs) {f i : Nat} (hf : f < 2 ^ 30) (hi : i ≤ 8) : tw_M G yX7_number cX7_number 6 (some .long) 1 21 [.ref (tw_ad G r), .int (nI f), .int (nI i)] S ri_J (fun v S' => v = lN (nb xs f i) ∧ S = S') := by
  subst hx; exact c_X7_number hG hr hf hi
theorem e_X7_addNumber {G : tw_G} (hG : tw_cG G) {S : tw_S} {r : Nat} (hr : tw_isRow r = true) {xs : List Nat} (hx : tw_R S r = xs) {v i : Nat} (hv : v < 2 ^ 64) (hi : i ≤ 8) : tw_M G yX7_addNumber cX7_addNumber 5 none 1 21 [.ref (tw_ad G r), .long (lN v), .int (nI i)] S ri_V (fun _ S' => S' = tw_uR S r ((xs ++ be v i).take (tw_cap r))) := by
  subst hx; exact c_X7_addNumber hG hr hv hi
theorem e_X7_setNumber {G : tw_G} (hG : tw_cG G) {S : tw_S} {r : Nat} (hr : tw_isRow r = true) {xs : List Nat} (hx : tw_R S r = xs) {f v i : Nat} (hf : f < 2 ^ 30) (hv : v < 2 ^ 64) (hi : i ≤ 8) : tw_M G yX7_setNumber cX7_setNumber 6 none 1 22 [.ref (tw_ad G r), .int (nI f), .long (lN v), .int (nI i)] S ri_V (fun _ S' => S' = tw_uR S r (setN xs f (be v i))) := by
  subst hx; exact c_X7_setNumber hG hr hf hv hi
theorem e_X7_addAll {G : tw_G} (hG : tw_cG G) {S : tw_S} {r : Nat} (hr : tw_isRow r = true) {xs : List Nat} (hx : tw_R S r = xs) {q : Nat} (hq : tw_isRow q = true) (hne : q ≠ r) {ys : List Nat} (hy : tw_R S q = ys) {a e : Nat} (ha : a < 2 ^ 30) (he : e < 2 ^ 30) : tw_M G yX7_addAll cX7_addAll 5 none 1 21 [.ref (tw_ad G r), .ref (tw_ad G q), .int (nI a), .int (nI e)] S ri_V (fun _ S' => S' = tw_uR S r ((xs ++ cutD ys a (e - a)).take (tw_cap r))) := by
  subst hx hy; exact c_X7_addAll hG hr hq hne ha he
theorem e_X7_become {G : tw_G} (hG : tw_cG G) {S : tw_S} {r : Nat} (hr : tw_isRow r = true) {q : Nat} (hq : tw_isRow q = true) (hne : q ≠ r) {ys : List Nat} (hy : tw_R S q = ys) : tw_M G yX7_become cX7_become 2 none 2 45 [.ref (tw_ad G r), .ref (tw_ad G q)] S ri_V (fun _ S' => S' = tw_uR S r (ys.take (tw_cap r))) := by
  subst hy; exact c_X7_become hG hr hq hne
