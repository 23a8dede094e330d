/-! what the model counts -/
def cQ (w : Nat) (ps : List mP) : Nat := if w = 1 then ps.length else mSum ps
def cP (w : Nat) : List mE → Nat
  | [] => 0
  | e :: l => cQ w e.2.2.2 + cP w l
theorem cP_app (w : Nat) (l : List mE) (e : mE) : cP w (l ++ [e]) = cP w l + cQ w e.2.2.2 := by
  induction l with
  | nil => simp [cP]
  | cons y l ih => simp only [List.cons_append, cP, ih]; omega
theorem cP_s {w h : Nat} {hl : List mE} (hh : h < hl.length) : cP w (hl.take (h + 1)) = cP w (hl.take h) + cQ w (hl.getD h d0).2.2.2 := by rw [take_s hh d0, cP_app]
theorem cQ_s1 {i : Nat} {ps : List mP} (h : i < ps.length) : cQ 1 (ps.take (i + 1)) = cQ 1 (ps.take i) + 1 := by
  simp only [cQ, if_true, List.length_take]; omega
theorem cQ_s2 {i : Nat} {ps : List mP} (h : i < ps.length) : cQ 2 (ps.take (i + 1)) = cQ 2 (ps.take i) + (ps.getD i p0).2.length := by
  simp only [cQ, show ¬ (2 : Nat) = 1 by decide, if_false]; exact mSum_s h
def cntM (fr : List (List Nat)) (hl : List mE) (ck wh dr la an i : Nat) : Int32 := match i with
  | 0 => nI hl.length
  | 1 => nI (cP 1 hl)
  | 2 => nI (cP 2 hl)
  | 3 => nI fr.length
  | 4 => nI wh
  | 5 => nI dr
  | 6 => nI la
  | 7 => nI an
  | 8 => nI ck
  | _ + 9 => -1
theorem cntM_out {fr : List (List Nat)} {hl : List mE} {ck wh dr la an i : Nat} (h : 9 ≤ i) : cntM fr hl ck wh dr la an i = -1 := by
  obtain ⟨j, rfl⟩ : ∃ j, i = j + 9 := ⟨i - 9, by omega⟩
  rfl
theorem c_X11_count {G : tw_G} (hM : tw_mG G) {S : tw_S} {K : kN} {tp ot : List Nat} {fr : List (List Nat)} {T : Nat → Int32} {hl : List mE} {ck wh dr la an : Nat} (hI : MI S K tp ot fr T hl ck wh dr la an) {i : Nat} (hi : i < 2 ^ 32) (hw : ∀ e ∈ hl, eW e) : tw_M G yX11_count cX11_count 5 (some .int) 0 0 [.ref (tw_ad G 114), .int (nI i)] S ri_I (fun v S' => v = cntM fr hl ck wh dr la an i ∧ S = S') := by
  refine tw_M.of (L := [(0, .ref (tw_ad G 114)), (1, .int (nI i))]) (by decide) (Nat.le_of_ble_eq_true rfl) rfl (fun X C N Q => ?_)
  have C : tw_C G X cX11_count RX11 := C
  have hl3 := hI.2.2.2.2.2.1.1
  have lo1 : i = 1 → ∀ (d h : Nat) (_ : h + d = hl.length), TW G X S [(3, .int (nI h)), (2, .int (nI (cP 1 (hl.take h)))), (0, .ref (tw_ad G 114)), (1, .int (nI 1))] 59 [] := by
    intro hq0 d
    induction d with
    | zero =>
      intro h hd
      refine tw_iload_n C dX11_count_59 0 rfl ?_
      refine tw_aload_n C dX11_count_60 2 rfl ?_
      refine tw_getI (v := nI hl.length) (k := 34) C dX11_count_61 fc_X11 sh_114 (hM 114 (by decide) (by decide)) rfl (by decide) wd_849 hI.2.2.2.2.2.1.2.1 ?_
      refine tn_icmp_ge C dX11_count_64 (tgt := 117) (by decide) (by omega) (by omega) (fun c1 => ?_) (fun c1 => ?_)
      · skip
        refine tw_iload_n C dX11_count_117 1 rfl ?_
        exact tw_ireturn C Q dX11_count_118 rfl rfl rfl ⟨by rw [hq0, List.take_of_length_le (by omega)]; rfl, rfl⟩
      · exact absurd c1 (by omega)
    | succ d ih =>
      intro h hd
      have hE := mHp_eP hI.2.2.2.2.2.1 (show h < hl.length by omega)
      have hWp := (hw _ (gD_mem (show h < hl.length by omega) d0)).1
      have inn : ∀ (di : Nat) (u : Nat) (_ : u + di = (hl.getD h d0).2.2.2.length), TW G X S [(4, .int (nI u)), (3, .int (nI h)), (2, .int (nI (cP 1 (hl.take h) + cQ 1 ((hl.getD h d0).2.2.2.take u)))), (0, .ref (tw_ad G 114)), (1, .int (nI 1))] 70 [] := by
        intro di
        induction di with
        | zero =>
          intro u hi
          refine tw_iload C dX11_count_70 0 rfl ?_
          refine tw_aload_n C dX11_count_72 3 rfl ?_
          refine tw_getR (q := 131) (k := 39) C dX11_count_73 fc_X11 sh_114 (hM 114 (by decide) (by decide)) rfl (by decide) wd_127 ?_
          refine tw_iload_n C dX11_count_76 1 rfl ?_
          refine tw_iald (v := nI ((hl.getD h d0).2.2.2.length)) C dX11_count_77 sn_131 sa_131 (hM 131 (by decide) (by decide)) (by omega) (by decide) hE.2.2.2.1 ?_
          refine tn_icmp_ge C dX11_count_78 (tgt := 111) (by decide) (by omega) (by omega) (fun c1 => ?_) (fun c1 => ?_)
          · skip
            refine tw_iinc (k := 1) (v := nI (h + 1)) (L' := [(3, .int (nI (h + 1))), (4, .int (nI u)), (2, .int (nI (cP 1 (hl.take h) + cQ 1 ((hl.getD h d0).2.2.2.take u)))), (0, .ref (tw_ad G 114)), (1, .int (nI 1))]) C N dX11_count_111 rfl (tn_inc1 _) (by decide) rfl ?_
            refine tw_goto C dX11_count_114 (tgt := 59) (by decide) ?_
            refine TW.c (L' := [(3, .int (nI (h + 1))), (2, .int (nI (cP 1 (hl.take (h + 1))))), (0, .ref (tw_ad G 114)), (1, .int (nI 1))]) (by rw [cP_s (by omega), List.take_of_length_le (show (hl.getD h d0).2.2.2.length ≤ u by omega)]; simp) ?_
            exact ih (h + 1) (by omega)
          · exact absurd c1 (by omega)
        | succ di ihi =>
          intro u hi
          refine tw_iload C dX11_count_70 0 rfl ?_
          refine tw_aload_n C dX11_count_72 3 rfl ?_
          refine tw_getR (q := 131) (k := 39) C dX11_count_73 fc_X11 sh_114 (hM 114 (by decide) (by decide)) rfl (by decide) wd_127 ?_
          refine tw_iload_n C dX11_count_76 1 rfl ?_
          refine tw_iald (v := nI ((hl.getD h d0).2.2.2.length)) C dX11_count_77 sn_131 sa_131 (hM 131 (by decide) (by decide)) (by omega) (by decide) hE.2.2.2.1 ?_
          refine tn_icmp_ge C dX11_count_78 (tgt := 111) (by decide) (by omega) (by omega) (fun c1 => ?_) (fun c1 => ?_)
          · exact absurd c1 (by omega)
          refine tw_iload_n C dX11_count_81 2 rfl ?_
          refine tw_iload_n C dX11_count_82 4 rfl ?_
          refine tw_iconst C dX11_count_83 (v := nI 1) (by decide) ?_
          refine tn_icmp_ne C dX11_count_84 (tgt := 91) (by decide) (by omega) (by omega) (fun c2 => ?_) (fun c2 => ?_)
          · exact absurd c2 (by decide)
          refine tw_iconst C dX11_count_87 (v := nI 1) (by decide) ?_
          refine tw_goto C dX11_count_88 (tgt := 103) (by decide) ?_
          refine tw_iadd C dX11_count_103 (v := nI ((cP 1 (hl.take h) + cQ 1 ((hl.getD h d0).2.2.2.take u)) + 1)) (nI_add _ _) ?_
          refine tw_istore_n (L' := [(2, .int (nI ((cP 1 (hl.take h) + cQ 1 ((hl.getD h d0).2.2.2.take u)) + 1))), (4, .int (nI u)), (3, .int (nI h)), (0, .ref (tw_ad G 114)), (1, .int (nI 1))]) C N dX11_count_104 rfl (by decide) rfl ?_
          refine tw_iinc (k := 1) (v := nI (u + 1)) (L' := [(4, .int (nI (u + 1))), (2, .int (nI ((cP 1 (hl.take h) + cQ 1 ((hl.getD h d0).2.2.2.take u)) + 1))), (3, .int (nI h)), (0, .ref (tw_ad G 114)), (1, .int (nI 1))]) C N dX11_count_105 rfl (tn_inc1 _) (by decide) rfl ?_
          refine tw_goto C dX11_count_108 (tgt := 70) (by decide) ?_
          refine TW.c (L' := [(4, .int (nI (u + 1))), (3, .int (nI h)), (2, .int (nI (cP 1 (hl.take h) + cQ 1 ((hl.getD h d0).2.2.2.take (u + 1))))), (0, .ref (tw_ad G 114)), (1, .int (nI 1))]) (by rw [cQ_s1 (by omega)]; simp [Nat.add_assoc]) ?_
          exact ihi (u + 1) (by omega)
      refine tw_iload_n C dX11_count_59 0 rfl ?_
      refine tw_aload_n C dX11_count_60 2 rfl ?_
      refine tw_getI (v := nI hl.length) (k := 34) C dX11_count_61 fc_X11 sh_114 (hM 114 (by decide) (by decide)) rfl (by decide) wd_849 hI.2.2.2.2.2.1.2.1 ?_
      refine tn_icmp_ge C dX11_count_64 (tgt := 117) (by decide) (by omega) (by omega) (fun c1 => ?_) (fun c1 => ?_)
      · exact absurd c1 (by omega)
      refine tw_iconst C dX11_count_67 (v := nI 0) (by decide) ?_
      refine tw_istore (L' := [(4, .int (nI 0)), (3, .int (nI h)), (2, .int (nI (cP 1 (hl.take h)))), (0, .ref (tw_ad G 114)), (1, .int (nI 1))]) C N dX11_count_68 (i := 4) (by decide) rfl ?_
      refine TW.c (L' := [(4, .int (nI 0)), (3, .int (nI h)), (2, .int (nI (cP 1 (hl.take h) + cQ 1 ((hl.getD h d0).2.2.2.take 0)))), (0, .ref (tw_ad G 114)), (1, .int (nI 1))]) (by simp [cQ, mSum]) ?_
      exact inn (hl.getD h d0).2.2.2.length 0 (by omega)
  have lo2 : i = 2 → ∀ (d h : Nat) (_ : h + d = hl.length), TW G X S [(3, .int (nI h)), (2, .int (nI (cP 2 (hl.take h)))), (0, .ref (tw_ad G 114)), (1, .int (nI 2))] 59 [] := by
    intro hq0 d
    induction d with
    | zero =>
      intro h hd
      refine tw_iload_n C dX11_count_59 0 rfl ?_
      refine tw_aload_n C dX11_count_60 2 rfl ?_
      refine tw_getI (v := nI hl.length) (k := 34) C dX11_count_61 fc_X11 sh_114 (hM 114 (by decide) (by decide)) rfl (by decide) wd_849 hI.2.2.2.2.2.1.2.1 ?_
      refine tn_icmp_ge C dX11_count_64 (tgt := 117) (by decide) (by omega) (by omega) (fun c1 => ?_) (fun c1 => ?_)
      · skip
        refine tw_iload_n C dX11_count_117 1 rfl ?_
        exact tw_ireturn C Q dX11_count_118 rfl rfl rfl ⟨by rw [hq0, List.take_of_length_le (by omega)]; rfl, rfl⟩
      · exact absurd c1 (by omega)
    | succ d ih =>
      intro h hd
      have hE := mHp_eP hI.2.2.2.2.2.1 (show h < hl.length by omega)
      have hWp := (hw _ (gD_mem (show h < hl.length by omega) d0)).1
      have inn : ∀ (di : Nat) (u : Nat) (_ : u + di = (hl.getD h d0).2.2.2.length), TW G X S [(4, .int (nI u)), (3, .int (nI h)), (2, .int (nI (cP 2 (hl.take h) + cQ 2 ((hl.getD h d0).2.2.2.take u)))), (0, .ref (tw_ad G 114)), (1, .int (nI 2))] 70 [] := by
        intro di
        induction di with
        | zero =>
          intro u hi
          refine tw_iload C dX11_count_70 0 rfl ?_
          refine tw_aload_n C dX11_count_72 3 rfl ?_
          refine tw_getR (q := 131) (k := 39) C dX11_count_73 fc_X11 sh_114 (hM 114 (by decide) (by decide)) rfl (by decide) wd_127 ?_
          refine tw_iload_n C dX11_count_76 1 rfl ?_
          refine tw_iald (v := nI ((hl.getD h d0).2.2.2.length)) C dX11_count_77 sn_131 sa_131 (hM 131 (by decide) (by decide)) (by omega) (by decide) hE.2.2.2.1 ?_
          refine tn_icmp_ge C dX11_count_78 (tgt := 111) (by decide) (by omega) (by omega) (fun c1 => ?_) (fun c1 => ?_)
          · skip
            refine tw_iinc (k := 1) (v := nI (h + 1)) (L' := [(3, .int (nI (h + 1))), (4, .int (nI u)), (2, .int (nI (cP 2 (hl.take h) + cQ 2 ((hl.getD h d0).2.2.2.take u)))), (0, .ref (tw_ad G 114)), (1, .int (nI 2))]) C N dX11_count_111 rfl (tn_inc1 _) (by decide) rfl ?_
            refine tw_goto C dX11_count_114 (tgt := 59) (by decide) ?_
            refine TW.c (L' := [(3, .int (nI (h + 1))), (2, .int (nI (cP 2 (hl.take (h + 1))))), (0, .ref (tw_ad G 114)), (1, .int (nI 2))]) (by rw [cP_s (by omega), List.take_of_length_le (show (hl.getD h d0).2.2.2.length ≤ u by omega)]; simp) ?_
            exact ih (h + 1) (by omega)
          · exact absurd c1 (by omega)
        | succ di ihi =>
          intro u hi
          refine tw_iload C dX11_count_70 0 rfl ?_
          refine tw_aload_n C dX11_count_72 3 rfl ?_
          refine tw_getR (q := 131) (k := 39) C dX11_count_73 fc_X11 sh_114 (hM 114 (by decide) (by decide)) rfl (by decide) wd_127 ?_
          refine tw_iload_n C dX11_count_76 1 rfl ?_
          refine tw_iald (v := nI ((hl.getD h d0).2.2.2.length)) C dX11_count_77 sn_131 sa_131 (hM 131 (by decide) (by decide)) (by omega) (by decide) hE.2.2.2.1 ?_
          refine tn_icmp_ge C dX11_count_78 (tgt := 111) (by decide) (by omega) (by omega) (fun c1 => ?_) (fun c1 => ?_)
          · exact absurd c1 (by omega)
          refine tw_iload_n C dX11_count_81 2 rfl ?_
          refine tw_iload_n C dX11_count_82 4 rfl ?_
          refine tw_iconst C dX11_count_83 (v := nI 1) (by decide) ?_
          refine tn_icmp_ne C dX11_count_84 (tgt := 91) (by decide) (by omega) (by omega) (fun c2 => ?_) (fun c2 => ?_)
          · skip
            refine tw_aload_n C dX11_count_91 3 rfl ?_
            refine tw_getR (q := 133) (k := 41) C dX11_count_92 fc_X11 sh_114 (hM 114 (by decide) (by decide)) rfl (by decide) wd_129 ?_
            refine tw_bipush C dX11_count_95 (v := nI 100) (by decide) ?_
            refine tw_iload_n C dX11_count_97 1 rfl ?_
            refine tw_imul C dX11_count_98 (v := nI (100 * h)) (pk_mul _ _) ?_
            refine tw_iload C dX11_count_99 0 rfl ?_
            refine tw_iadd C dX11_count_101 (v := nI ((100 * h) + u)) (nI_add _ _) ?_
            refine tw_iald (v := nI (((hl.getD h d0).2.2.2.getD u p0).2.length)) C dX11_count_102 sn_133 sa_133 (hM 133 (by decide) (by decide)) (by omega) (by decide) (hE.2.2.2.2 u (by omega)).2.1 ?_
            refine tw_iadd C dX11_count_103 (v := nI ((cP 2 (hl.take h) + cQ 2 ((hl.getD h d0).2.2.2.take u)) + (((hl.getD h d0).2.2.2.getD u p0).2.length))) (nI_add _ _) ?_
            refine tw_istore_n (L' := [(2, .int (nI ((cP 2 (hl.take h) + cQ 2 ((hl.getD h d0).2.2.2.take u)) + (((hl.getD h d0).2.2.2.getD u p0).2.length)))), (4, .int (nI u)), (3, .int (nI h)), (0, .ref (tw_ad G 114)), (1, .int (nI 2))]) C N dX11_count_104 rfl (by decide) rfl ?_
            refine tw_iinc (k := 1) (v := nI (u + 1)) (L' := [(4, .int (nI (u + 1))), (2, .int (nI ((cP 2 (hl.take h) + cQ 2 ((hl.getD h d0).2.2.2.take u)) + (((hl.getD h d0).2.2.2.getD u p0).2.length)))), (3, .int (nI h)), (0, .ref (tw_ad G 114)), (1, .int (nI 2))]) C N dX11_count_105 rfl (tn_inc1 _) (by decide) rfl ?_
            refine tw_goto C dX11_count_108 (tgt := 70) (by decide) ?_
            refine TW.c (L' := [(4, .int (nI (u + 1))), (3, .int (nI h)), (2, .int (nI (cP 2 (hl.take h) + cQ 2 ((hl.getD h d0).2.2.2.take (u + 1))))), (0, .ref (tw_ad G 114)), (1, .int (nI 2))]) (by rw [cQ_s2 (by omega)]; simp [Nat.add_assoc]) ?_
            exact ihi (u + 1) (by omega)
          · exact absurd c2 (by decide)
      refine tw_iload_n C dX11_count_59 0 rfl ?_
      refine tw_aload_n C dX11_count_60 2 rfl ?_
      refine tw_getI (v := nI hl.length) (k := 34) C dX11_count_61 fc_X11 sh_114 (hM 114 (by decide) (by decide)) rfl (by decide) wd_849 hI.2.2.2.2.2.1.2.1 ?_
      refine tn_icmp_ge C dX11_count_64 (tgt := 117) (by decide) (by omega) (by omega) (fun c1 => ?_) (fun c1 => ?_)
      · exact absurd c1 (by omega)
      refine tw_iconst C dX11_count_67 (v := nI 0) (by decide) ?_
      refine tw_istore (L' := [(4, .int (nI 0)), (3, .int (nI h)), (2, .int (nI (cP 2 (hl.take h)))), (0, .ref (tw_ad G 114)), (1, .int (nI 2))]) C N dX11_count_68 (i := 4) (by decide) rfl ?_
      refine TW.c (L' := [(4, .int (nI 0)), (3, .int (nI h)), (2, .int (nI (cP 2 (hl.take h) + cQ 2 ((hl.getD h d0).2.2.2.take 0)))), (0, .ref (tw_ad G 114)), (1, .int (nI 2))]) (by simp [cQ, mSum]) ?_
      exact inn (hl.getD h d0).2.2.2.length 0 (by omega)
  rcases Nat.lt_or_ge i (2 ^ 31) with hi1 | hi1
  · skip
    refine tw_iconst C dX11_count_0 (v := nI 0) (by decide) ?_
    refine tw_istore_n (L' := [(2, .int (nI 0)), (0, .ref (tw_ad G 114)), (1, .int (nI i))]) C N dX11_count_1 rfl (by decide) rfl ?_
    refine tw_iload_n C dX11_count_2 2 rfl ?_
    rcases (show i = 0 ∨ i = 1 ∨ i = 2 ∨ i = 3 ∨ i = 4 ∨ i = 5 ∨ i = 6 ∨ i = 7 ∨ i = 8 ∨ 9 ≤ i by omega) with q | q | q | q | q | q | q | q | q | q
    · refine tn_tabIn (tgt := 52) (off := 49) C dX11_count_3 (by omega) (by omega) (by omega) (by simp [q]) (by decide) ?_
      refine tw_aload_n C dX11_count_52 1 rfl ?_
      refine tw_getI (v := nI hl.length) (k := 34) C dX11_count_53 fc_X11 sh_114 (hM 114 (by decide) (by decide)) rfl (by decide) wd_849 hI.2.2.2.2.2.1.2.1 ?_
      exact tw_ireturn C Q dX11_count_56 rfl rfl rfl ⟨by rw [q]; rfl, rfl⟩
    · refine tn_tabIn (tgt := 57) (off := 54) C dX11_count_3 (by omega) (by omega) (by omega) (by simp [q]) (by decide) ?_
      refine tw_iconst C dX11_count_57 (v := nI 0) (by decide) ?_
      refine tw_istore_n (L' := [(3, .int (nI 0)), (2, .int (nI 0)), (0, .ref (tw_ad G 114)), (1, .int (nI i))]) C N dX11_count_58 rfl (by decide) rfl ?_
      first | (refine TW.c (L' := [(3, .int (nI 0)), (2, .int (nI (cP 1 (hl.take 0)))), (0, .ref (tw_ad G 114)), (1, .int (nI 1))]) (by rw [q]; simp [cP]) ?_; exact lo1 q hl.length 0 (by omega)) | (refine TW.c (L' := [(3, .int (nI 0)), (2, .int (nI (cP 2 (hl.take 0)))), (0, .ref (tw_ad G 114)), (1, .int (nI 2))]) (by rw [q]; simp [cP]) ?_; exact lo2 q hl.length 0 (by omega))
    · refine tn_tabIn (tgt := 57) (off := 54) C dX11_count_3 (by omega) (by omega) (by omega) (by simp [q]) (by decide) ?_
      refine tw_iconst C dX11_count_57 (v := nI 0) (by decide) ?_
      refine tw_istore_n (L' := [(3, .int (nI 0)), (2, .int (nI 0)), (0, .ref (tw_ad G 114)), (1, .int (nI i))]) C N dX11_count_58 rfl (by decide) rfl ?_
      first | (refine TW.c (L' := [(3, .int (nI 0)), (2, .int (nI (cP 1 (hl.take 0)))), (0, .ref (tw_ad G 114)), (1, .int (nI 1))]) (by rw [q]; simp [cP]) ?_; exact lo1 q hl.length 0 (by omega)) | (refine TW.c (L' := [(3, .int (nI 0)), (2, .int (nI (cP 2 (hl.take 0)))), (0, .ref (tw_ad G 114)), (1, .int (nI 2))]) (by rw [q]; simp [cP]) ?_; exact lo2 q hl.length 0 (by omega))
    · refine tn_tabIn (tgt := 119) (off := 116) C dX11_count_3 (by omega) (by omega) (by omega) (by simp [q]) (by decide) ?_
      refine tw_aload_n C dX11_count_119 1 rfl ?_
      refine tw_getI (v := nI fr.length) (k := 32) C dX11_count_120 fc_X11 sh_114 (hM 114 (by decide) (by decide)) rfl (by decide) wd_692 hI.2.2.2.1.2.1 ?_
      exact tw_ireturn C Q dX11_count_123 rfl rfl rfl ⟨by rw [q]; rfl, rfl⟩
    · refine tn_tabIn (tgt := 124) (off := 121) C dX11_count_3 (by omega) (by omega) (by omega) (by simp [q]) (by decide) ?_
      refine tw_aload_n C dX11_count_124 1 rfl ?_
      refine tw_getI (v := nI wh) (k := 42) C dX11_count_125 fc_X11 sh_114 (hM 114 (by decide) (by decide)) rfl (by decide) wd_835 hI.2.2.2.2.2.2.2.1 ?_
      exact tw_ireturn C Q dX11_count_128 rfl rfl rfl ⟨by rw [q]; rfl, rfl⟩
    · refine tn_tabIn (tgt := 129) (off := 126) C dX11_count_3 (by omega) (by omega) (by omega) (by simp [q]) (by decide) ?_
      refine tw_aload_n C dX11_count_129 1 rfl ?_
      refine tw_getI (v := nI dr) (k := 43) C dX11_count_130 fc_X11 sh_114 (hM 114 (by decide) (by decide)) rfl (by decide) wd_844 hI.2.2.2.2.2.2.2.2.1 ?_
      exact tw_ireturn C Q dX11_count_133 rfl rfl rfl ⟨by rw [q]; rfl, rfl⟩
    · refine tn_tabIn (tgt := 134) (off := 131) C dX11_count_3 (by omega) (by omega) (by omega) (by simp [q]) (by decide) ?_
      refine tw_aload_n C dX11_count_134 1 rfl ?_
      refine tw_getI (v := nI la) (k := 44) C dX11_count_135 fc_X11 sh_114 (hM 114 (by decide) (by decide)) rfl (by decide) wd_851 hI.2.2.2.2.2.2.2.2.2.1 ?_
      exact tw_ireturn C Q dX11_count_138 rfl rfl rfl ⟨by rw [q]; rfl, rfl⟩
    · refine tn_tabIn (tgt := 139) (off := 136) C dX11_count_3 (by omega) (by omega) (by omega) (by simp [q]) (by decide) ?_
      refine tw_aload_n C dX11_count_139 1 rfl ?_
      refine tw_getI (v := nI an) (k := 45) C dX11_count_140 fc_X11 sh_114 (hM 114 (by decide) (by decide)) rfl (by decide) wd_852 hI.2.2.2.2.2.2.2.2.2.2 ?_
      exact tw_ireturn C Q dX11_count_143 rfl rfl rfl ⟨by rw [q]; rfl, rfl⟩
    · refine tn_tabIn (tgt := 144) (off := 141) C dX11_count_3 (by omega) (by omega) (by omega) (by simp [q]) (by decide) ?_
      refine tw_aload_n C dX11_count_144 1 rfl ?_
      refine tw_getI (v := nI ck) (k := 33) C dX11_count_145 fc_X11 sh_114 (hM 114 (by decide) (by decide)) rfl (by decide) wd_850 hI.2.2.2.2.2.2.1 ?_
      exact tw_ireturn C Q dX11_count_148 rfl rfl rfl ⟨by rw [q]; rfl, rfl⟩
    · refine tn_tabOut (tgt := 149) C dX11_count_3 (by omega) (by omega) (by decide) ?_
      refine tw_iconst C dX11_count_149 (v := (-1)) (by decide) ?_
      exact tw_ireturn C Q dX11_count_150 rfl rfl rfl ⟨(cntM_out (by omega)).symm, rfl⟩
  · have hneg := nI_neg hi1 hi
    refine tw_iconst C dX11_count_0 (v := nI 0) (by decide) ?_
    refine tw_istore_n (L' := [(2, .int (nI 0)), (0, .ref (tw_ad G 114)), (1, .int (nI i))]) C N dX11_count_1 rfl (by decide) rfl ?_
    refine tw_iload_n C dX11_count_2 2 rfl ?_
    refine tw_tabOut (tgt := 149) C dX11_count_3 (Or.inl (by rw [Int32.lt_iff_toInt_lt, Int32.toInt_zero] at hneg; exact hneg)) (by decide) ?_
    refine tw_iconst C dX11_count_149 (v := (-1)) (by decide) ?_
    exact tw_ireturn C Q dX11_count_150 rfl rfl rfl ⟨(cntM_out (by omega)).symm, rfl⟩
