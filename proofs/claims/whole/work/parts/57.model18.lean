theorem c_X11_squeeze {G : tw_G} (hM : tw_mG G) {S : tw_S} {K : kN} {tp ot : List Nat} {fr : List (List Nat)} {T : Nat → Int32} {hl : List mE} {ck wh dr la an : Nat} (hI : MI S K tp ot fr T hl ck wh dr la an) (htb : ∀ x ∈ tp, x < 256) (htl : tp.length ≤ 640) : tw_M G yX11_squeeze cX11_squeeze 1 (some .int) 4 97 [.ref (tw_ad G 114)] S ri_I (fun v S' => if isPkB tp = true then v = nI (sqAll K tp).length ∧ MI S' K tp (sqAll K tp) fr T hl ck wh dr la an else v = -2 ∧ S = S') := by
  refine tw_M.of (L := [(0, .ref (tw_ad G 114))]) (by decide) (Nat.le_of_ble_eq_true rfl) rfl (fun X C N Q => ?_)
  have C : tw_C G X cX11_squeeze RX11 := C
  refine tw_aload_n C dX11_squeeze_0 0 rfl ?_
  refine tw_callV (As := []) (rest := []) C N (c_X11_isPacket hM (S := S) hI.2.1.1 htb htl hI.2.1.2) mm_X11_isPacket wd_382 rfl (hM 114 (by decide) (by decide)) sh_114 rfl (by decide) rfl (Nat.le_of_ble_eq_true rfl) dX11_squeeze_1 ?_
  rintro _ _ ⟨rfl, rfl⟩
  show TW G X S [(0, .ref (tw_ad G 114))] 4 [.int (bI (isPkB tp))]
  refine tb_if_ne C dX11_squeeze_4 (tgt := 10) (by decide) (fun hpk => ?_) (fun hpk => ?_)
  · skip
    refine tw_aload_n C dX11_squeeze_10 0 rfl ?_
    refine tw_callV (As := []) (rest := []) C N (c_X11_squeezeTape hM hI htb htl hpk) mm_X11_squeezeTape wd_386 rfl (hM 114 (by decide) (by decide)) sh_114 rfl (by decide) rfl (Nat.le_of_ble_eq_true rfl) dX11_squeeze_11 ?_
    rintro _ S1 ⟨hI1, hrow, h8, h9, h10⟩
    show TW G X S1 [(0, .ref (tw_ad G 114))] 14 []
    refine TW.sS (S' := MU S1 120 8 (tw_A S1 120) (sqAll K tp)) (MU_self h8) ?_
    refine tw_aload_n C dX11_squeeze_14 0 rfl ?_
    refine tw_callV (As := []) (rest := []) C N (c_X11_rowToOut hM (B := S1) (f := tw_A S1 120) (xs := sqAll K tp) hrow (by have h3 := ((isPkB_iff tp).mp hpk).2.1; have h4 := sqAll_len K h3; omega)) mm_X11_rowToOut wd_440 rfl (hM 114 (by decide) (by decide)) sh_114 rfl (by decide) rfl (Nat.le_of_ble_eq_true rfl) dX11_squeeze_15 ?_
    rintro _ _ ⟨g, rfl, hg⟩
    show TW G X (MU (MU S1 120 8 (tw_A S1 120) (sqAll K tp)) 119 6 g (sqAll K tp)) [(0, .ref (tw_ad G 114))] 18 []
    refine tw_aload_n C dX11_squeeze_18 0 rfl ?_
    refine tw_getI (v := nI ((sqAll K tp).length)) (k := 6) C dX11_squeeze_19 fc_X11 sh_114 (hM 114 (by decide) (by decide)) rfl (by decide) wd_270 rfl ?_
    exact tw_ireturn C Q dX11_squeeze_22 rfl rfl rfl (by rw [if_pos hpk]; exact ⟨rfl, MI_ot (MI_rw hI1) hg⟩)
  · skip
    refine tw_bipush C dX11_squeeze_7 (v := (-2)) (by decide) ?_
    exact tw_ireturn C Q dX11_squeeze_9 rfl rfl rfl (by rw [if_neg (by rw [hpk]; decide)]; exact ⟨rfl, rfl⟩)
theorem c_X11_packetToOut {G : tw_G} (hM : tw_mG G) {S : tw_S} {P : List Nat} (hP : LA (tw_A S 122) P) (h24 : tw_I S 114 24 = nI P.length) (hPl : P.length ≤ 800) : tw_M G yX11_packetToOut cX11_packetToOut 2 none 0 0 [.ref (tw_ad G 114)] S ri_V (fun _ S' => ∃ g, S' = MU S 119 6 g P ∧ LA g P) := by
  refine tw_M.of (L := [(0, .ref (tw_ad G 114))]) (by decide) (Nat.le_of_ble_eq_true rfl) rfl (fun X C N Q => ?_)
  have C : tw_C G X cX11_packetToOut RX11 := C
  have loop : ∀ (d : Nat) (k : Nat) (g : Nat → Int32) (_ : k + d = P.length) (hg : ∀ i, i < k → g i = nI (P.getD i 0)), TW G X (tw_wA S 119 g) [(1, .int (nI k)), (0, .ref (tw_ad G 114))] 2 [] := by
    intro d
    induction d with
    | zero =>
      intro k g hk hg
      refine tw_iload_n C dX11_packetToOut_2 0 rfl ?_
      refine tw_aload_n C dX11_packetToOut_3 1 rfl ?_
      refine tw_getI (v := nI P.length) (k := 24) C dX11_packetToOut_4 fc_X11 sh_114 (hM 114 (by decide) (by decide)) rfl (by decide) wd_637 h24 ?_
      refine tn_icmp_ge C dX11_packetToOut_7 (tgt := 28) (by decide) (by omega) (by omega) (fun c1 => ?_) (fun c1 => ?_)
      · skip
        refine tw_aload_n C dX11_packetToOut_28 1 rfl ?_
        refine tw_aload_n C dX11_packetToOut_29 1 rfl ?_
        refine tw_getI (v := nI P.length) (k := 24) C dX11_packetToOut_30 fc_X11 sh_114 (hM 114 (by decide) (by decide)) rfl (by decide) wd_637 h24 ?_
        refine tw_putI (k := 6) C dX11_packetToOut_33 fc_X11 sh_114 (hM 114 (by decide) (by decide)) rfl (by decide) rfl wd_270 rfl rfl ?_
        exact tw_return (v := ()) C Q dX11_packetToOut_36 rfl rfl ⟨g, rfl, fun i hi => hg i (by omega)⟩
      · exact absurd c1 (by omega)
    | succ d ih =>
      intro k g hk hg
      refine tw_iload_n C dX11_packetToOut_2 0 rfl ?_
      refine tw_aload_n C dX11_packetToOut_3 1 rfl ?_
      refine tw_getI (v := nI P.length) (k := 24) C dX11_packetToOut_4 fc_X11 sh_114 (hM 114 (by decide) (by decide)) rfl (by decide) wd_637 h24 ?_
      refine tn_icmp_ge C dX11_packetToOut_7 (tgt := 28) (by decide) (by omega) (by omega) (fun c1 => ?_) (fun c1 => ?_)
      · exact absurd c1 (by omega)
      refine tw_aload_n C dX11_packetToOut_10 1 rfl ?_
      refine tw_getR (q := 119) (k := 5) C dX11_packetToOut_11 fc_X11 sh_114 (hM 114 (by decide) (by decide)) rfl (by decide) wd_115 ?_
      refine tw_iload_n C dX11_packetToOut_14 0 rfl ?_
      refine tw_aload_n C dX11_packetToOut_15 1 rfl ?_
      refine tw_getR (q := 122) (k := 23) C dX11_packetToOut_16 fc_X11 sh_114 (hM 114 (by decide) (by decide)) rfl (by decide) wd_118 ?_
      refine tw_iload_n C dX11_packetToOut_19 0 rfl ?_
      refine tw_iald (v := nI (P.getD k 0)) C dX11_packetToOut_20 sn_122 sa_122 (hM 122 (by decide) (by decide)) (by omega) (by decide) (hP k (by omega)) ?_
      refine tw_iast C dX11_packetToOut_21 sn_119 sa_119 (hM 119 (by decide) (by decide)) (by omega) (by decide) ?_
      refine tw_iinc (k := 0) (v := nI (k + 1)) (L' := [(1, .int (nI (k + 1))), (0, .ref (tw_ad G 114))]) C N dX11_packetToOut_22 rfl (tn_inc1 _) (by decide) rfl ?_
      refine tw_goto C dX11_packetToOut_25 (tgt := 2) (by decide) ?_
      rw [wA_uA]
      refine TW.c (L' := [(1, .int (nI (k + 1))), (0, .ref (tw_ad G 114))]) (by simp) ?_
      exact ih (k + 1) _ (by omega) (fun i hi => by
        by_cases hx : i = k
        · rw [hx]; simp [upd]
        · simp only [upd, hx, if_false]; exact hg i (by omega))
  refine tw_iconst C dX11_packetToOut_0 (v := nI 0) (by decide) ?_
  refine tw_istore_n (L' := [(1, .int (nI 0)), (0, .ref (tw_ad G 114))]) C N dX11_packetToOut_1 rfl (by decide) rfl ?_
  refine TW.sS (S' := tw_wA S 119 (tw_A S 119)) (wA_self _ 119).symm ?_
  refine TW.c (L' := [(1, .int (nI 0)), (0, .ref (tw_ad G 114))]) (by simp) ?_
  exact loop P.length 0 _ (by omega) (fun i hi => absurd hi (by omega))
theorem getD_drop {xs : List Nat} {a i : Nat} : (xs.drop a).getD i 0 = xs.getD (a + i) 0 := by
  simp [List.getD_eq_getElem?_getD, List.getElem?_drop]
theorem c_X11_reads {G : tw_G} (hM : tw_mG G) {S : tw_S} {K : kN} {tp ot : List Nat} {fr : List (List Nat)} {T : Nat → Int32} {hl : List mE} {ck wh dr la an : Nat} (hI : MI S K tp ot fr T hl ck wh dr la an) {k a : Nat} (hkl : k < fr.length) (hfl : (fr.getD k []).length ≤ 120) (ha : a ≤ (fr.getD k []).length) : tw_M G yX11_reads cX11_reads 4 none 0 0 [.ref (tw_ad G 114), .int (nI k), .int (nI a)] S ri_V (fun _ S' => ∃ g, S' = tw_wA (tw_uI S 114 19 (nI ((fr.getD k []).drop a).length)) 121 g ∧ LA g ((fr.getD k []).drop a)) := by
  refine tw_M.of (L := [(0, .ref (tw_ad G 114)), (1, .int (nI k)), (2, .int (nI a))]) (by decide) (Nat.le_of_ble_eq_true rfl) rfl (fun X C N Q => ?_)
  have C : tw_C G X cX11_reads RX11 := C
  have h40 := hI.2.2.2.1.1
  have hdl : ((fr.getD k []).drop a).length = (fr.getD k []).length - a := List.length_drop
  have loop : ∀ (d : Nat) (j : Nat) (g : Nat → Int32) (_ : j + d = ((fr.getD k []).drop a).length) (hg : ∀ i, i < j → g i = nI (((fr.getD k []).drop a).getD i 0)), TW G X (tw_wA (tw_uI S 114 19 (nI ((fr.getD k []).drop a).length)) 121 g) [(3, .int (nI j)), (0, .ref (tw_ad G 114)), (1, .int (nI k)), (2, .int (nI a))] 14 [] := by
    intro d
    induction d with
    | zero =>
      intro j g hj hg
      refine tw_iload_n C dX11_reads_14 0 rfl ?_
      refine tw_aload_n C dX11_reads_15 1 rfl ?_
      refine tw_getI (v := nI (((fr.getD k []).drop a).length)) (k := 19) C dX11_reads_16 fc_X11 sh_114 (hM 114 (by decide) (by decide)) rfl (by decide) wd_582 rfl ?_
      refine tn_icmp_ge C dX11_reads_19 (tgt := 47) (by decide) (by omega) (by omega) (fun c1 => ?_) (fun c1 => ?_)
      · skip
        exact tw_return (v := ()) C Q dX11_reads_47 rfl rfl ⟨g, rfl, fun i hi => hg i (by omega)⟩
      · exact absurd c1 (by omega)
    | succ d ih =>
      intro j g hj hg
      refine tw_iload_n C dX11_reads_14 0 rfl ?_
      refine tw_aload_n C dX11_reads_15 1 rfl ?_
      refine tw_getI (v := nI (((fr.getD k []).drop a).length)) (k := 19) C dX11_reads_16 fc_X11 sh_114 (hM 114 (by decide) (by decide)) rfl (by decide) wd_582 rfl ?_
      refine tn_icmp_ge C dX11_reads_19 (tgt := 47) (by decide) (by omega) (by omega) (fun c1 => ?_) (fun c1 => ?_)
      · exact absurd c1 (by omega)
      refine tw_aload_n C dX11_reads_22 1 rfl ?_
      refine tw_getR (q := 121) (k := 18) C dX11_reads_23 fc_X11 sh_114 (hM 114 (by decide) (by decide)) rfl (by decide) wd_117 ?_
      refine tw_iload_n C dX11_reads_26 0 rfl ?_
      refine tw_aload_n C dX11_reads_27 1 rfl ?_
      refine tw_getR (q := 125) (k := 30) C dX11_reads_28 fc_X11 sh_114 (hM 114 (by decide) (by decide)) rfl (by decide) wd_121 ?_
      refine tw_bipush C dX11_reads_31 (v := nI 120) (by decide) ?_
      refine tw_iload_n C dX11_reads_33 2 rfl ?_
      refine tw_imul C dX11_reads_34 (v := nI (120 * k)) (pk_mul _ _) ?_
      refine tw_iload_n C dX11_reads_35 3 rfl ?_
      refine tw_iadd C dX11_reads_36 (v := nI ((120 * k) + a)) (nI_add _ _) ?_
      refine tw_iload_n C dX11_reads_37 0 rfl ?_
      refine tw_iadd C dX11_reads_38 (v := nI (((120 * k) + a) + j)) (nI_add _ _) ?_
      refine tw_iald (v := nI ((fr.getD k []).getD (a + j) 0)) C dX11_reads_39 sn_125 sa_125 (hM 125 (by decide) (by decide)) (by omega) (by decide) (by have h0 := (hI.2.2.2.1.2.2 k hkl).2 (a + j) (by rw [List.length_drop] at *; omega); rw [← Nat.add_assoc] at h0; exact h0) ?_
      refine tw_iast C dX11_reads_40 sn_121 sa_121 (hM 121 (by decide) (by decide)) (by omega) (by decide) ?_
      refine tw_iinc (k := 0) (v := nI (j + 1)) (L' := [(3, .int (nI (j + 1))), (0, .ref (tw_ad G 114)), (1, .int (nI k)), (2, .int (nI a))]) C N dX11_reads_41 rfl (tn_inc1 _) (by decide) rfl ?_
      refine tw_goto C dX11_reads_44 (tgt := 14) (by decide) ?_
      rw [wA_uA]
      refine TW.c (L' := [(3, .int (nI (j + 1))), (0, .ref (tw_ad G 114)), (1, .int (nI k)), (2, .int (nI a))]) (by simp) ?_
      exact ih (j + 1) _ (by omega) (fun i hi => by
        by_cases hx : i = j
        · rw [hx]; simp only [upd, if_true]; rw [getD_drop]
        · simp only [upd, hx, if_false]; exact hg i (by omega))
  refine tw_aload_n C dX11_reads_0 0 rfl ?_
  refine tw_aload_n C dX11_reads_1 0 rfl ?_
  refine tw_getR (q := 126) (k := 31) C dX11_reads_2 fc_X11 sh_114 (hM 114 (by decide) (by decide)) rfl (by decide) wd_122 ?_
  refine tw_iload_n C dX11_reads_5 1 rfl ?_
  refine tw_iald (v := nI ((fr.getD k []).length)) C dX11_reads_6 sn_126 sa_126 (hM 126 (by decide) (by decide)) (by omega) (by decide) (hI.2.2.2.1.2.2 k hkl).1 ?_
  refine tw_iload_n C dX11_reads_7 2 rfl ?_
  refine tw_isub C dX11_reads_8 (v := nI (((fr.getD k []).length) - a)) (pk_sub (by omega)) ?_
  refine tw_putI (k := 19) C dX11_reads_9 fc_X11 sh_114 (hM 114 (by decide) (by decide)) rfl (by decide) rfl wd_582 rfl rfl ?_
  refine TW.sS (S' := tw_wA (tw_uI S 114 19 (nI ((fr.getD k []).drop a).length)) 121 (tw_A S 121)) (by rw [List.length_drop]; exact (wA_self _ 121).symm) ?_
  refine tw_iconst C dX11_reads_12 (v := nI 0) (by decide) ?_
  refine tw_istore_n (L' := [(3, .int (nI 0)), (0, .ref (tw_ad G 114)), (1, .int (nI k)), (2, .int (nI a))]) C N dX11_reads_13 rfl (by decide) rfl ?_
  refine TW.c (L' := [(3, .int (nI 0)), (0, .ref (tw_ad G 114)), (1, .int (nI k)), (2, .int (nI a))]) (by simp) ?_
  exact loop ((fr.getD k []).drop a).length 0 _ (by omega) (fun i hi => absurd hi (by omega))
theorem MI_dr {S : tw_S} {K : kN} {tp ot : List Nat} {fr : List (List Nat)} {T : Nat → Int32} {hl : List mE} {ck wh dr la an : Nat} {x : Nat} (h : MI S K tp ot fr T hl ck wh dr la an) : MI (tw_uI S 114 43 (nI x)) K tp ot fr T hl ck wh x la an := ⟨h.1, h.2.1, h.2.2.1, h.2.2.2.1, h.2.2.2.2.1, h.2.2.2.2.2.1, h.2.2.2.2.2.2.1, h.2.2.2.2.2.2.2.1, rfl, h.2.2.2.2.2.2.2.2.2⟩
theorem MI_wh {S : tw_S} {K : kN} {tp ot : List Nat} {fr : List (List Nat)} {T : Nat → Int32} {hl : List mE} {ck wh dr la an : Nat} {x : Nat} (h : MI S K tp ot fr T hl ck wh dr la an) : MI (tw_uI S 114 42 (nI x)) K tp ot fr T hl ck x dr la an := ⟨h.1, h.2.1, h.2.2.1, h.2.2.2.1, h.2.2.2.2.1, h.2.2.2.2.2.1, h.2.2.2.2.2.2.1, rfl, h.2.2.2.2.2.2.2.2⟩
theorem MI_la {S : tw_S} {K : kN} {tp ot : List Nat} {fr : List (List Nat)} {T : Nat → Int32} {hl : List mE} {ck wh dr la an : Nat} {x : Nat} (h : MI S K tp ot fr T hl ck wh dr la an) : MI (tw_uI S 114 44 (nI x)) K tp ot fr T hl ck wh dr x an := ⟨h.1, h.2.1, h.2.2.1, h.2.2.2.1, h.2.2.2.2.1, h.2.2.2.2.2.1, h.2.2.2.2.2.2.1, h.2.2.2.2.2.2.2.1, h.2.2.2.2.2.2.2.2.1, rfl, h.2.2.2.2.2.2.2.2.2.2⟩
theorem MI_an {S : tw_S} {K : kN} {tp ot : List Nat} {fr : List (List Nat)} {T : Nat → Int32} {hl : List mE} {ck wh dr la an : Nat} {x : Nat} (h : MI S K tp ot fr T hl ck wh dr la an) : MI (tw_uI S 114 45 (nI x)) K tp ot fr T hl ck wh dr la x := ⟨h.1, h.2.1, h.2.2.1, h.2.2.2.1, h.2.2.2.2.1, h.2.2.2.2.2.1, h.2.2.2.2.2.2.1, h.2.2.2.2.2.2.2.1, h.2.2.2.2.2.2.2.2.1, h.2.2.2.2.2.2.2.2.2.1, rfl⟩
theorem c_X11_drops {G : tw_G} (hM : tw_mG G) {S : tw_S} {K : kN} {tp ot : List Nat} {fr : List (List Nat)} {T : Nat → Int32} {hl : List mE} {ck wh dr la an : Nat} (hI : MI S K tp ot fr T hl ck wh dr la an)  : tw_M G yX11_drops cX11_drops 1 (some .int) 0 0 [.ref (tw_ad G 114)] S ri_I (fun v S' => v = nI 0 ∧ MI S' K tp ot fr T hl ck wh (dr + 1) la an) := by
  refine tw_M.of (L := [(0, .ref (tw_ad G 114))]) (by decide) (Nat.le_of_ble_eq_true rfl) rfl (fun X C N Q => ?_)
  have C : tw_C G X cX11_drops RX11 := C
  refine tw_aload_n C dX11_drops_0 0 rfl ?_
  refine tw_dup C dX11_drops_1 rfl ?_
  refine tw_getI (v := nI dr) (k := 43) C dX11_drops_2 fc_X11 sh_114 (hM 114 (by decide) (by decide)) rfl (by decide) wd_844 hI.2.2.2.2.2.2.2.2.1 ?_
  refine tw_iconst C dX11_drops_5 (v := nI 1) (by decide) ?_
  refine tw_iadd C dX11_drops_6 (v := nI (dr + 1)) (nI_add _ _) ?_
  refine tw_putI (k := 43) C dX11_drops_7 fc_X11 sh_114 (hM 114 (by decide) (by decide)) rfl (by decide) rfl wd_844 rfl rfl ?_
  refine tw_iconst C dX11_drops_10 (v := nI 0) (by decide) ?_
  exact tw_ireturn C Q dX11_drops_11 rfl rfl rfl ⟨rfl, MI_dr hI⟩
