theorem c_X11_isFrame {G : tw_G} (hM : tw_mG G) {S : tw_S} {m k : Nat} (hk : k < 2 ^ 32) (hm : m < 2 ^ 30) (h32 : tw_I S 114 32 = nI m) : tw_M G yX11_isFrame cX11_isFrame 2 (some .boolean) 1 22 [.ref (tw_ad G 114), .int (nI k)] S ri_I (fun v S' => v = bI (decide (k < m)) ∧ S = S') := by
  refine tw_M.of (L := [(0, .ref (tw_ad G 114)), (1, .int (nI k))]) (by decide) (Nat.le_of_ble_eq_true rfl) rfl (fun X C N Q => ?_)
  have C : tw_C G X cX11_isFrame RX11 := C
  refine tw_iload_n C dX11_isFrame_0 1 rfl ?_
  refine tw_iconst C dX11_isFrame_1 (v := nI 0) (by decide) ?_
  refine tw_aload_n C dX11_isFrame_2 0 rfl ?_
  refine tw_getI (v := nI m) (k := 32) C dX11_isFrame_3 fc_X11 sh_114 (hM 114 (by decide) (by decide)) rfl (by decide) wd_692 h32 ?_
  refine tw_iconst C dX11_isFrame_6 (v := nI 1) (by decide) ?_
  refine tw_isub C dX11_isFrame_7 (v := (nI m) - (nI 1)) rfl ?_
  refine tw_callS (As := [.int (nI k), .int (nI 0), .int ((nI m) - (nI 1))]) (rest := []) C N (c_X11_in0 (S := S) (v := k) (m := m) (by omega) (by omega)) mm_X11_in wd_135 rfl (by decide) rfl (Nat.le_of_ble_eq_true rfl) dX11_isFrame_8 ?_
  rintro _ _ ⟨rfl, rfl⟩
  show TW G X S [(0, .ref (tw_ad G 114)), (1, .int (nI k))] 11 [.int (bI (decide (k < m)))]
  exact tw_ireturn C Q dX11_isFrame_11 rfl (bI_nar _) rfl ⟨rfl, rfl⟩
theorem c_X11_frame {G : tw_G} (hM : tw_mG G) {S : tw_S} {K : kN} {tp ot : List Nat} {fr : List (List Nat)} {T : Nat → Int32} {hl : List mE} {ck wh dr la an : Nat} (hI : MI S K tp ot fr T hl ck wh dr la an) {k : Nat} (hk : k < 2 ^ 32) {i : Nat} (hi : i < 2 ^ 32) (hfb : ∀ k, k < fr.length → (∀ x ∈ fr.getD k [], x < 256) ∧ (fr.getD k []).length ≤ 120) : tw_M G yX11_frame cX11_frame 3 (some .int) 2 43 [.ref (tw_ad G 114), .int (nI k), .int (nI i)] S ri_I (fun v S' => if k < fr.length then v = bOL (fr.getD k []) i ∧ S = S' else v = -1 ∧ S = S') := by
  refine tw_M.of (L := [(0, .ref (tw_ad G 114)), (1, .int (nI k)), (2, .int (nI i))]) (by decide) (Nat.le_of_ble_eq_true rfl) rfl (fun X C N Q => ?_)
  have C : tw_C G X cX11_frame RX11 := C
  refine tw_aload_n C dX11_frame_0 0 rfl ?_
  refine tw_iload_n C dX11_frame_1 1 rfl ?_
  refine tw_callV (As := [.int (nI k)]) (rest := []) C N (c_X11_isFrame hM (S := S) (m := fr.length) (k := k) (by omega) (by have := hI.2.2.2.1.1; omega) hI.2.2.2.1.2.1) mm_X11_isFrame wd_717 rfl (hM 114 (by decide) (by decide)) sh_114 rfl (by decide) rfl (Nat.le_of_ble_eq_true rfl) dX11_frame_2 ?_
  rintro _ _ ⟨rfl, rfl⟩
  show TW G X S [(0, .ref (tw_ad G 114)), (1, .int (nI k)), (2, .int (nI i))] 5 [.int (bI (decide (k < fr.length)))]
  refine tb_if_ne C dX11_frame_5 (tgt := 10) (by decide) (fun ck1 => ?_) (fun ck1 => ?_)
  · have h40 := hI.2.2.2.1.1
    have hkl := of_decide_eq_true ck1
    have hk120 := (hfb k hkl).2
    refine tw_iload_n C dX11_frame_10 2 rfl ?_
    refine tw_iconst C dX11_frame_11 (v := (-1)) (by decide) ?_
    refine tw_icmp_ne C dX11_frame_12 (tgt := 24) (by decide) (fun cm => ?_) (fun cm => ?_)
    · skip
      refine tw_iload_n C dX11_frame_24 2 rfl ?_
      refine tw_iconst C dX11_frame_25 (v := nI 0) (by decide) ?_
      refine tw_aload_n C dX11_frame_26 0 rfl ?_
      refine tw_getR (q := 126) (k := 31) C dX11_frame_27 fc_X11 sh_114 (hM 114 (by decide) (by decide)) rfl (by decide) wd_122 ?_
      refine tw_iload_n C dX11_frame_30 1 rfl ?_
      refine tw_iald (v := nI ((fr.getD k []).length)) C dX11_frame_31 sn_126 sa_126 (hM 126 (by decide) (by decide)) (by omega) (by decide) (hI.2.2.2.1.2.2 k hkl).1 ?_
      refine tw_iconst C dX11_frame_32 (v := nI 1) (by decide) ?_
      refine tw_isub C dX11_frame_33 (v := (nI ((fr.getD k []).length)) - (nI 1)) rfl ?_
      refine tw_callS (As := [.int (nI i), .int (nI 0), .int ((nI ((fr.getD k []).length)) - (nI 1))]) (rest := []) C N (c_X11_in0 (S := S) (v := i) (m := (fr.getD k []).length) (by omega) (by omega)) mm_X11_in wd_135 rfl (by decide) rfl (Nat.le_of_ble_eq_true rfl) dX11_frame_34 ?_
      rintro _ _ ⟨rfl, rfl⟩
      show TW G X S [(0, .ref (tw_ad G 114)), (1, .int (nI k)), (2, .int (nI i))] 37 [.int (bI (decide (i < (fr.getD k []).length)))]
      refine tb_if_eq C dX11_frame_37 (tgt := 54) (by decide) (fun chh => ?_) (fun chh => ?_)
      · skip
        refine tw_iconst C dX11_frame_54 (v := (-1)) (by decide) ?_
        exact tw_ireturn C Q dX11_frame_55 rfl rfl rfl (by rw [if_pos hkl, bOL, if_neg (by rw [← nI_m1 hi]; exact cm), if_neg (of_decide_eq_false chh)]; exact ⟨rfl, rfl⟩)
      · have hlt := of_decide_eq_true chh
        refine tw_aload_n C dX11_frame_40 0 rfl ?_
        refine tw_getR (q := 125) (k := 30) C dX11_frame_41 fc_X11 sh_114 (hM 114 (by decide) (by decide)) rfl (by decide) wd_121 ?_
        refine tw_bipush C dX11_frame_44 (v := nI 120) (by decide) ?_
        refine tw_iload_n C dX11_frame_46 1 rfl ?_
        refine tw_imul C dX11_frame_47 (v := nI (120 * k)) (pk_mul _ _) ?_
        refine tw_iload_n C dX11_frame_48 2 rfl ?_
        refine tw_iadd C dX11_frame_49 (v := nI ((120 * k) + i)) (nI_add _ _) ?_
        refine tw_iald (v := nI ((fr.getD k []).getD i 0)) C dX11_frame_50 sn_125 sa_125 (hM 125 (by decide) (by decide)) (by omega) (by decide) ((hI.2.2.2.1.2.2 k hkl).2 i hlt) ?_
        refine tw_goto C dX11_frame_51 (tgt := 55) (by decide) ?_
        exact tw_ireturn C Q dX11_frame_55 rfl rfl rfl (by rw [if_pos hkl, bOL, if_neg (by rw [← nI_m1 hi]; exact cm), if_pos hlt]; exact ⟨rfl, rfl⟩)
    · skip
      refine tw_aload_n C dX11_frame_15 0 rfl ?_
      refine tw_getR (q := 126) (k := 31) C dX11_frame_16 fc_X11 sh_114 (hM 114 (by decide) (by decide)) rfl (by decide) wd_122 ?_
      refine tw_iload_n C dX11_frame_19 1 rfl ?_
      refine tw_iald (v := nI ((fr.getD k []).length)) C dX11_frame_20 sn_126 sa_126 (hM 126 (by decide) (by decide)) (by omega) (by decide) (hI.2.2.2.1.2.2 k hkl).1 ?_
      refine tw_goto C dX11_frame_21 (tgt := 55) (by decide) ?_
      exact tw_ireturn C Q dX11_frame_55 rfl rfl rfl (by rw [if_pos hkl, bOL, if_pos ((nI_m1 hi).mp cm)]; exact ⟨rfl, rfl⟩)
  · skip
    refine tw_iconst C dX11_frame_8 (v := (-1)) (by decide) ?_
    exact tw_ireturn C Q dX11_frame_9 rfl rfl rfl (by rw [if_neg (of_decide_eq_false ck1)]; exact ⟨rfl, rfl⟩)
theorem c_X11_told {G : tw_G} (hM : tw_mG G) {S : tw_S} {K : kN} {tp ot : List Nat} {fr : List (List Nat)} {T : Nat → Int32} {hl : List mE} {ck wh dr la an : Nat} (hI : MI S K tp ot fr T hl ck wh dr la an) {i : Nat} (hi : i < 2 ^ 32) : tw_M G yX11_told cX11_told 2 (some .int) 1 22 [.ref (tw_ad G 114), .int (nI i)] S ri_I (fun v S' => v = (if i < 8 then T i else -1) ∧ S = S') := by
  refine tw_M.of (L := [(0, .ref (tw_ad G 114)), (1, .int (nI i))]) (by decide) (Nat.le_of_ble_eq_true rfl) rfl (fun X C N Q => ?_)
  have C : tw_C G X cX11_told RX11 := C
  refine tw_iload_n C dX11_told_0 1 rfl ?_
  refine tw_iconst C dX11_told_1 (v := nI 0) (by decide) ?_
  refine tw_bipush C dX11_told_2 (v := nI 7) (by decide) ?_
  refine tw_callS (As := [.int (nI i), .int (nI 0), .int (nI 7)]) (rest := []) C N (c_X11_in1 (S := S) (v := i) (lo := 0) (hi := 7) (by omega) (by omega) (by omega)) mm_X11_in wd_135 rfl (by decide) rfl (Nat.le_of_ble_eq_true rfl) dX11_told_4 ?_
  rintro _ _ ⟨rfl, rfl⟩
  show TW G X S [(0, .ref (tw_ad G 114)), (1, .int (nI i))] 7 [.int (bI (decide (0 ≤ i ∧ i ≤ 7)))]
  refine tb_if_ne C dX11_told_7 (tgt := 12) (by decide) (fun cg => ?_) (fun cg => ?_)
  · have hi8 := of_decide_eq_true cg
    refine tw_iload_n C dX11_told_12 1 rfl ?_
    refine tn_if_ne C dX11_told_13 (tgt := 23) (by decide) (by omega) (fun c0 => ?_) (fun c0 => ?_)
    · skip
      refine tw_iload_n C dX11_told_23 1 rfl ?_
      refine tw_iconst C dX11_told_24 (v := nI 1) (by decide) ?_
      refine tn_icmp_ne C dX11_told_25 (tgt := 35) (by decide) (by omega) (by omega) (fun c1 => ?_) (fun c1 => ?_)
      · skip
        refine tw_aload_n C dX11_told_35 0 rfl ?_
        refine tw_getR (q := 124) (k := 29) C dX11_told_36 fc_X11 sh_114 (hM 114 (by decide) (by decide)) rfl (by decide) wd_120 ?_
        refine tw_iload_n C dX11_told_39 1 rfl ?_
        refine tw_iald (v := T i) C dX11_told_40 sn_124 sa_124 (hM 124 (by decide) (by decide)) (by omega) (by decide) (hI.2.2.2.2.1.2.2 i (by omega) (by omega)) ?_
        exact tw_ireturn C Q dX11_told_41 rfl rfl rfl ⟨by rw [if_pos (by omega)], rfl⟩
      · skip
        refine tw_aload_n C dX11_told_28 0 rfl ?_
        refine tw_getI (v := T 1) (k := 28) C dX11_told_29 fc_X11 sh_114 (hM 114 (by decide) (by decide)) rfl (by decide) wd_587 hI.2.2.2.2.1.2.1 ?_
        refine tw_goto C dX11_told_32 (tgt := 41) (by decide) ?_
        exact tw_ireturn C Q dX11_told_41 rfl rfl rfl ⟨by rw [if_pos (by omega)]; subst c1; rfl, rfl⟩
    · skip
      refine tw_aload_n C dX11_told_16 0 rfl ?_
      refine tw_getI (v := T 0) (k := 27) C dX11_told_17 fc_X11 sh_114 (hM 114 (by decide) (by decide)) rfl (by decide) wd_585 hI.2.2.2.2.1.1 ?_
      refine tw_goto C dX11_told_20 (tgt := 41) (by decide) ?_
      exact tw_ireturn C Q dX11_told_41 rfl rfl rfl ⟨by rw [if_pos (by omega)]; subst c0; rfl, rfl⟩
  · skip
    refine tw_iconst C dX11_told_10 (v := (-1)) (by decide) ?_
    exact tw_ireturn C Q dX11_told_11 rfl rfl rfl ⟨by rw [if_neg (by have := of_decide_eq_false cg; omega)], rfl⟩
theorem MI_ck {S : tw_S} {K : kN} {tp ot : List Nat} {fr : List (List Nat)} {T : Nat → Int32} {hl : List mE} {ck wh dr la an x : Nat} (h : MI S K tp ot fr T hl ck wh dr la an) : MI (tw_uI S 114 33 (nI x)) K tp ot fr T hl x wh dr la an := ⟨h.1, h.2.1, h.2.2.1, h.2.2.2.1, h.2.2.2.2.1, h.2.2.2.2.2.1, rfl, h.2.2.2.2.2.2.2⟩
theorem c_X11_pass {G : tw_G} (hM : tw_mG G) {S : tw_S} {K : kN} {tp ot : List Nat} {fr : List (List Nat)} {T : Nat → Int32} {hl : List mE} {ck wh dr la an : Nat} (hI : MI S K tp ot fr T hl ck wh dr la an) {i : Nat} (hi : i < 2 ^ 32) : tw_M G yX11_pass cX11_pass 2 (some .int) 1 22 [.ref (tw_ad G 114), .int (nI i)] S ri_I (fun v S' => if i ≤ 1000 then v = nI (ck + i) ∧ MI S' K tp ot fr T hl (ck + i) wh dr la an else v = -1 ∧ S = S') := by
  refine tw_M.of (L := [(0, .ref (tw_ad G 114)), (1, .int (nI i))]) (by decide) (Nat.le_of_ble_eq_true rfl) rfl (fun X C N Q => ?_)
  have C : tw_C G X cX11_pass RX11 := C
  refine tw_iload_n C dX11_pass_0 1 rfl ?_
  refine tw_iconst C dX11_pass_1 (v := nI 0) (by decide) ?_
  refine tw_sipush C dX11_pass_2 (v := nI 1000) (by decide) ?_
  refine tw_callS (As := [.int (nI i), .int (nI 0), .int (nI 1000)]) (rest := []) C N (c_X11_in1 (S := S) (v := i) (lo := 0) (hi := 1000) (by omega) (by omega) (by omega)) mm_X11_in wd_135 rfl (by decide) rfl (Nat.le_of_ble_eq_true rfl) dX11_pass_5 ?_
  rintro _ _ ⟨rfl, rfl⟩
  show TW G X S [(0, .ref (tw_ad G 114)), (1, .int (nI i))] 8 [.int (bI (decide (0 ≤ i ∧ i ≤ 1000)))]
  refine tb_if_ne C dX11_pass_8 (tgt := 13) (by decide) (fun cg => ?_) (fun cg => ?_)
  · skip
    refine tw_aload_n C dX11_pass_13 0 rfl ?_
    refine tw_dup C dX11_pass_14 rfl ?_
    refine tw_getI (v := nI ck) (k := 33) C dX11_pass_15 fc_X11 sh_114 (hM 114 (by decide) (by decide)) rfl (by decide) wd_850 hI.2.2.2.2.2.2.1 ?_
    refine tw_iload_n C dX11_pass_18 1 rfl ?_
    refine tw_iadd C dX11_pass_19 (v := nI (ck + i)) (nI_add _ _) ?_
    refine tw_putI (k := 33) C dX11_pass_20 fc_X11 sh_114 (hM 114 (by decide) (by decide)) rfl (by decide) rfl wd_850 rfl rfl ?_
    refine tw_aload_n C dX11_pass_23 0 rfl ?_
    refine tw_getI (v := nI (ck + i)) (k := 33) C dX11_pass_24 fc_X11 sh_114 (hM 114 (by decide) (by decide)) rfl (by decide) wd_850 rfl ?_
    exact tw_ireturn C Q dX11_pass_27 rfl rfl rfl (by rw [if_pos (of_decide_eq_true cg).2]; exact ⟨rfl, MI_ck hI⟩)
  · skip
    refine tw_iconst C dX11_pass_11 (v := (-1)) (by decide) ?_
    exact tw_ireturn C Q dX11_pass_12 rfl rfl rfl (by rw [if_neg (by have := of_decide_eq_false cg; omega)]; exact ⟨rfl, rfl⟩)
theorem getD_set_same {α : Type} {xs : List α} {k : Nat} (h : k < xs.length) (x d : α) : (xs.set k x).getD k d = x := by
  simp [List.getD_eq_getElem?_getD, List.getElem?_set_self h]
theorem getD_set_ne {α : Type} {xs : List α} {k j : Nat} (h : j ≠ k) (x d : α) : (xs.set k x).getD j d = xs.getD j d := by
  simp [List.getD_eq_getElem?_getD, List.getElem?_set_ne (Ne.symm h)]
theorem mF_spoil {S : tw_S} {fr : List (List Nat)} {k i b : Nat} (h : mF S fr) (hfb : ∀ k, k < fr.length → (fr.getD k []).length ≤ 120) (hk : k < fr.length) (hi : i < (fr.getD k []).length) : mF (tw_uA S 125 (120 * k + i) (nI b)) (fr.set k ((fr.getD k []).set i b)) := by
  refine ⟨by rw [List.length_set]; exact h.1, by rw [List.length_set]; exact h.2.1, fun j hj => ?_⟩
  rw [List.length_set] at hj
  have hL := hfb k hk
  by_cases hjk : j = k
  · subst hjk
    rw [getD_set_same hk]
    refine ⟨by rw [List.length_set]; exact (h.2.2 j hk).1, fun q hq => ?_⟩
    rw [List.length_set] at hq
    rw [tq_A_uA]
    by_cases hqi : q = i
    · subst hqi
      rw [if_pos ⟨rfl, rfl⟩, getD_set_same hi]
    · rw [if_neg (by omega), getD_set_ne hqi]
      exact (h.2.2 j hk).2 q hq
  · rw [getD_set_ne hjk]
    have hL2 := hfb j hj
    refine ⟨(h.2.2 j hj).1, fun q hq => ?_⟩
    rw [tq_A_uA, if_neg (by omega)]
    exact (h.2.2 j hj).2 q hq
theorem c_X11_spoil {G : tw_G} (hM : tw_mG G) {S : tw_S} {K : kN} {tp ot : List Nat} {fr : List (List Nat)} {T : Nat → Int32} {hl : List mE} {ck wh dr la an : Nat} (hI : MI S K tp ot fr T hl ck wh dr la an) {k : Nat} (hk : k < 2 ^ 32) {i : Nat} (hi : i < 2 ^ 32) {m : Nat} (hfb : ∀ k, k < fr.length → (∀ x ∈ fr.getD k [], x < 256) ∧ (fr.getD k []).length ≤ 120) : tw_M G yX11_spoil cX11_spoil 4 (some .int) 2 43 [.ref (tw_ad G 114), .int (nI k), .int (nI i), .int (nI m)] S ri_I (fun v S' => if k < fr.length ∧ i < (fr.getD k []).length then v = nI ((fr.getD k []).getD i 0 ^^^ m % 256) ∧ MI S' K tp ot (fr.set k ((fr.getD k []).set i ((fr.getD k []).getD i 0 ^^^ m % 256))) T hl ck wh dr la an else v = -1 ∧ S = S') := by
  refine tw_M.of (L := [(0, .ref (tw_ad G 114)), (1, .int (nI k)), (2, .int (nI i)), (3, .int (nI m))]) (by decide) (Nat.le_of_ble_eq_true rfl) rfl (fun X C N Q => ?_)
  have C : tw_C G X cX11_spoil RX11 := C
  refine tw_aload_n C dX11_spoil_0 0 rfl ?_
  refine tw_iload_n C dX11_spoil_1 1 rfl ?_
  refine tw_callV (As := [.int (nI k)]) (rest := []) C N (c_X11_isFrame hM (S := S) (m := fr.length) (k := k) (by omega) (by have := hI.2.2.2.1.1; omega) hI.2.2.2.1.2.1) mm_X11_isFrame wd_717 rfl (hM 114 (by decide) (by decide)) sh_114 rfl (by decide) rfl (Nat.le_of_ble_eq_true rfl) dX11_spoil_2 ?_
  rintro _ _ ⟨rfl, rfl⟩
  show TW G X S [(0, .ref (tw_ad G 114)), (1, .int (nI k)), (2, .int (nI i)), (3, .int (nI m))] 5 [.int (bI (decide (k < fr.length)))]
  refine tb_if_eq C dX11_spoil_5 (tgt := 24) (by decide) (fun ck1 => ?_) (fun ck1 => ?_)
  · skip
    refine tw_iconst C dX11_spoil_24 (v := (-1)) (by decide) ?_
    exact tw_ireturn C Q dX11_spoil_25 rfl rfl rfl (by rw [if_neg (fun h => of_decide_eq_false ck1 h.1)]; exact ⟨rfl, rfl⟩)
  · have h40 := hI.2.2.2.1.1
    have hkl := of_decide_eq_true ck1
    have hk120 := (hfb k hkl).2
    refine tw_iload_n C dX11_spoil_8 2 rfl ?_
    refine tw_iconst C dX11_spoil_9 (v := nI 0) (by decide) ?_
    refine tw_aload_n C dX11_spoil_10 0 rfl ?_
    refine tw_getR (q := 126) (k := 31) C dX11_spoil_11 fc_X11 sh_114 (hM 114 (by decide) (by decide)) rfl (by decide) wd_122 ?_
    refine tw_iload_n C dX11_spoil_14 1 rfl ?_
    refine tw_iald (v := nI ((fr.getD k []).length)) C dX11_spoil_15 sn_126 sa_126 (hM 126 (by decide) (by decide)) (by omega) (by decide) (hI.2.2.2.1.2.2 k hkl).1 ?_
    refine tw_iconst C dX11_spoil_16 (v := nI 1) (by decide) ?_
    refine tw_isub C dX11_spoil_17 (v := (nI ((fr.getD k []).length)) - (nI 1)) rfl ?_
    refine tw_callS (As := [.int (nI i), .int (nI 0), .int ((nI ((fr.getD k []).length)) - (nI 1))]) (rest := []) C N (c_X11_in0 (S := S) (v := i) (m := (fr.getD k []).length) (by omega) (by omega)) mm_X11_in wd_135 rfl (by decide) rfl (Nat.le_of_ble_eq_true rfl) dX11_spoil_18 ?_
    rintro _ _ ⟨rfl, rfl⟩
    show TW G X S [(0, .ref (tw_ad G 114)), (1, .int (nI k)), (2, .int (nI i)), (3, .int (nI m))] 21 [.int (bI (decide (i < (fr.getD k []).length)))]
    refine tb_if_ne C dX11_spoil_21 (tgt := 26) (by decide) (fun chh => ?_) (fun chh => ?_)
    · have hlt := of_decide_eq_true chh
      refine tw_aload_n C dX11_spoil_26 0 rfl ?_
      refine tw_getR (q := 125) (k := 30) C dX11_spoil_27 fc_X11 sh_114 (hM 114 (by decide) (by decide)) rfl (by decide) wd_121 ?_
      refine tw_bipush C dX11_spoil_30 (v := nI 120) (by decide) ?_
      refine tw_iload_n C dX11_spoil_32 1 rfl ?_
      refine tw_imul C dX11_spoil_33 (v := nI (120 * k)) (pk_mul _ _) ?_
      refine tw_iload_n C dX11_spoil_34 2 rfl ?_
      refine tw_iadd C dX11_spoil_35 (v := nI ((120 * k) + i)) (nI_add _ _) ?_
      refine tw_aload_n C dX11_spoil_36 0 rfl ?_
      refine tw_getR (q := 125) (k := 30) C dX11_spoil_37 fc_X11 sh_114 (hM 114 (by decide) (by decide)) rfl (by decide) wd_121 ?_
      refine tw_bipush C dX11_spoil_40 (v := nI 120) (by decide) ?_
      refine tw_iload_n C dX11_spoil_42 1 rfl ?_
      refine tw_imul C dX11_spoil_43 (v := nI (120 * k)) (pk_mul _ _) ?_
      refine tw_iload_n C dX11_spoil_44 2 rfl ?_
      refine tw_iadd C dX11_spoil_45 (v := nI ((120 * k) + i)) (nI_add _ _) ?_
      refine tw_iald (v := nI ((fr.getD k []).getD i 0)) C dX11_spoil_46 sn_125 sa_125 (hM 125 (by decide) (by decide)) (by omega) (by decide) ((hI.2.2.2.1.2.2 k hkl).2 i hlt) ?_
      refine tw_iload_n C dX11_spoil_47 3 rfl ?_
      refine tw_sipush C dX11_spoil_48 (v := nI 255) (by decide) ?_
      refine tw_iand C dX11_spoil_51 (v := nI (m % 256)) (nI_andm 8 (by decide)) ?_
      refine tw_ixor C dX11_spoil_52 (v := nI (((fr.getD k []).getD i 0) ^^^ (m % 256))) (nI_xor _ _) ?_
      refine tw_iast C dX11_spoil_53 sn_125 sa_125 (hM 125 (by decide) (by decide)) (by omega) (by decide) ?_
      refine tw_aload_n C dX11_spoil_54 0 rfl ?_
      refine tw_getR (q := 125) (k := 30) C dX11_spoil_55 fc_X11 sh_114 (hM 114 (by decide) (by decide)) rfl (by decide) wd_121 ?_
      refine tw_bipush C dX11_spoil_58 (v := nI 120) (by decide) ?_
      refine tw_iload_n C dX11_spoil_60 1 rfl ?_
      refine tw_imul C dX11_spoil_61 (v := nI (120 * k)) (pk_mul _ _) ?_
      refine tw_iload_n C dX11_spoil_62 2 rfl ?_
      refine tw_iadd C dX11_spoil_63 (v := nI ((120 * k) + i)) (nI_add _ _) ?_
      refine tw_iald (v := nI ((fr.getD k []).getD i 0 ^^^ m % 256)) C dX11_spoil_64 sn_125 sa_125 (hM 125 (by decide) (by decide)) (by omega) (by decide) (by rw [tq_A_uA, if_pos ⟨rfl, rfl⟩]) ?_
      exact tw_ireturn C Q dX11_spoil_65 rfl rfl rfl (by rw [if_pos ⟨hkl, hlt⟩]; exact ⟨rfl, hI.1, hI.2.1, hI.2.2.1, mF_spoil hI.2.2.2.1 (fun k hk => (hfb k hk).2) hkl hlt, hI.2.2.2.2⟩)
    · skip
      refine tw_iconst C dX11_spoil_24 (v := (-1)) (by decide) ?_
      exact tw_ireturn C Q dX11_spoil_25 rfl rfl rfl (by rw [if_neg (fun h => of_decide_eq_false chh h.2)]; exact ⟨rfl, rfl⟩)
