theorem uF_00 {K : kN} {bs : List Nat} {s : Nat} {o : Option Nat} (h : (uF K bs s o).1 = 0) : uF K bs s o = (0, 0) := by
  unfold uF at h ⊢
  split
  · rename_i h2
    rw [if_pos h2] at h
    exact absurd h h2
  · rename_i h2
    rw [if_neg h2] at h
    split
    · rename_i h3
      rw [if_pos h3] at h
      exact absurd (show (7 : Nat) = 0 from h) (by decide)
    · rfl
theorem MI_tl {S : tw_S} {K : kN} {tp ot : List Nat} {fr : List (List Nat)} {T : Nat → Int32} {hl : List mE} {ck wh dr la an : Nat} {T' : Nat → Int32} {f : Nat → Int32} {a b : Nat} {x : Int32} (h : MI S K tp ot fr T hl ck wh dr la an) (h0 : nI a = T' 0) (h1 : nI b = T' 1) (h2 : ∀ j, 2 ≤ j → j < 8 → f j = T' j) : MI (tw_wA (tw_uI (tw_uI (tw_uI S 114 26 x) 114 27 (nI a)) 114 28 (nI b)) 124 f) K tp ot fr T' hl ck wh dr la an := ⟨h.1, h.2.1, h.2.2.1, h.2.2.2.1, ⟨h0, h1, h2⟩, h.2.2.2.2.2⟩
theorem MI_rd {S : tw_S} {K : kN} {tp ot : List Nat} {fr : List (List Nat)} {T : Nat → Int32} {hl : List mE} {ck wh dr la an : Nat} {f : Nat → Int32} {x : Int32} (h : MI S K tp ot fr T hl ck wh dr la an) : MI (tw_wA (tw_uI S 114 19 x) 121 f) K tp ot fr T hl ck wh dr la an := h
theorem tlF_0 (ft : Nat × Nat) : ∀ j, 2 ≤ j → j < 8 → tlF ft j = nI 0 := by
  intro j h1 h2
  rcases (show j = 2 ∨ j = 3 ∨ j = 4 ∨ j = 5 ∨ j = 6 ∨ j = 7 by omega) with rfl | rfl | rfl | rfl | rfl | rfl <;> rfl
theorem c_X11_unfold {G : tw_G} (hM : tw_mG G) {S : tw_S} {K : kN} {tp ot : List Nat} {fr : List (List Nat)} {T : Nat → Int32} {hl : List mE} {ck wh dr la an : Nat} (hI : MI S K tp ot fr T hl ck wh dr la an) (htb : ∀ x ∈ tp, x < 256) (htl : tp.length ≤ 640) : tw_M G yX11_unfold cX11_unfold 3 (some .int) 5 121 [.ref (tw_ad G 114)] S ri_I (fun v S' => if (uF K tp 0 none).1 = 0 then v = nI (uPk K tp 0 none).length ∧ MI S' K tp (uPk K tp 0 none) fr (tlW tp) hl ck wh dr la an else v = (-10) - nI (uF K tp 0 none).1 ∧ MI S' K tp ot fr (tlF (uF K tp 0 none)) hl ck wh dr la an) := by
  refine tw_M.of (L := [(0, .ref (tw_ad G 114))]) (by decide) (Nat.le_of_ble_eq_true rfl) rfl (fun X C N Q => ?_)
  have C : tw_C G X cX11_unfold RX11 := C
  have loopG : ∀ (S2 : tw_S) (_ : MI S2 K tp ot fr T hl ck wh dr la an) (_ : tw_I S2 114 21 = nI (uF K tp 0 none).1) (_ : tw_I S2 114 22 = nI (uF K tp 0 none).2) (_ : (uF K tp 0 none).1 = 0) (_ : LA (tw_A S2 122) (uPk K tp 0 none)) (_ : tw_I S2 114 24 = nI (uPk K tp 0 none).length) (_ : ∀ j, 2 ≤ j → j < 8 → tw_A S2 123 j = tlW tp j), ∀ (d : Nat) (j : Nat) (f : Nat → Int32) (_ : j + d = 8) (hj2 : 2 ≤ j) (hf : ∀ i, 2 ≤ i → i < j → f i = (tlW tp) i), TW G X (tw_wA (tw_uI (tw_uI (tw_uI S2 114 26 (nI 1)) 114 27 (nI (uF K tp 0 none).1)) 114 28 (nI (uF K tp 0 none).2)) 124 f) [(2, .int (nI j)), (1, .int (nI 1)), (0, .ref (tw_ad G 114))] 65 [] := by
    intro S2 hI2 h21 h22 he hP h24 hT d
    induction d with
    | zero =>
      intro j f hj hj2 hf
      refine tw_iload_n C dX11_unfold_65 0 rfl ?_
      refine tw_bipush C dX11_unfold_66 (v := nI 8) (by decide) ?_
      refine tn_icmp_ge C dX11_unfold_68 (tgt := 97) (by decide) (by omega) (by omega) (fun c1 => ?_) (fun c1 => ?_)
      · skip
        refine tw_iload_n C dX11_unfold_97 1 rfl ?_
        refine tn_if_ne C dX11_unfold_98 (tgt := 109) (by decide) (by omega) (fun c2 => ?_) (fun c2 => ?_)
        · skip
          refine tw_aload_n C dX11_unfold_109 2 rfl ?_
          refine tw_callV (As := []) (rest := []) C N (c_X11_packetToOut hM (S := tw_wA (tw_uI (tw_uI (tw_uI S2 114 26 (nI 1)) 114 27 (nI (uF K tp 0 none).1)) 114 28 (nI (uF K tp 0 none).2)) 124 f) (P := uPk K tp 0 none) hP h24 (by have := uPk_le he; omega)) mm_X11_packetToOut wd_638 rfl (hM 114 (by decide) (by decide)) sh_114 rfl (by decide) rfl (Nat.le_of_ble_eq_true rfl) dX11_unfold_110 ?_
          rintro _ _ ⟨g, rfl, hg⟩
          show TW G X (MU (tw_wA (tw_uI (tw_uI (tw_uI S2 114 26 (nI 1)) 114 27 (nI (uF K tp 0 none).1)) 114 28 (nI (uF K tp 0 none).2)) 124 f) 119 6 g (uPk K tp 0 none)) [(2, .int (nI j)), (1, .int (nI 1)), (0, .ref (tw_ad G 114))] 113 []
          refine tw_aload_n C dX11_unfold_113 2 rfl ?_
          refine tw_getI (v := nI ((uPk K tp 0 none).length)) (k := 6) C dX11_unfold_114 fc_X11 sh_114 (hM 114 (by decide) (by decide)) rfl (by decide) wd_270 rfl ?_
          exact tw_ireturn C Q dX11_unfold_117 rfl rfl rfl (by rw [if_pos he]; exact ⟨rfl, MI_ot (MI_tl hI2 (by rw [he]; rfl) (by rw [uF_00 he]; rfl) (fun i k1 k2 => hf i k1 (by omega))) hg⟩)
        · exact absurd c2 (by decide)
      · exact absurd c1 (by omega)
    | succ d ih =>
      intro j f hj hj2 hf
      refine tw_iload_n C dX11_unfold_65 0 rfl ?_
      refine tw_bipush C dX11_unfold_66 (v := nI 8) (by decide) ?_
      refine tn_icmp_ge C dX11_unfold_68 (tgt := 97) (by decide) (by omega) (by omega) (fun c1 => ?_) (fun c1 => ?_)
      · exact absurd c1 (by omega)
      refine tw_aload_n C dX11_unfold_71 2 rfl ?_
      refine tw_getR (q := 124) (k := 29) C dX11_unfold_72 fc_X11 sh_114 (hM 114 (by decide) (by decide)) rfl (by decide) wd_120 ?_
      refine tw_iload_n C dX11_unfold_75 0 rfl ?_
      refine tw_iload_n C dX11_unfold_76 1 rfl ?_
      refine tn_if_eq C dX11_unfold_77 (tgt := 89) (by decide) (by omega) (fun c2 => ?_) (fun c2 => ?_)
      · exact absurd c2 (by decide)
      refine tw_aload_n C dX11_unfold_80 2 rfl ?_
      refine tw_getR (q := 123) (k := 25) C dX11_unfold_81 fc_X11 sh_114 (hM 114 (by decide) (by decide)) rfl (by decide) wd_119 ?_
      refine tw_iload_n C dX11_unfold_84 0 rfl ?_
      refine tw_iald (v := tlW tp j) C dX11_unfold_85 sn_123 sa_123 (hM 123 (by decide) (by decide)) (by omega) (by decide) (hT j hj2 (by omega)) ?_
      refine tw_goto C dX11_unfold_86 (tgt := 90) (by decide) ?_
      refine tw_iast C dX11_unfold_90 sn_124 sa_124 (hM 124 (by decide) (by decide)) (by omega) (by decide) ?_
      refine tw_iinc (k := 0) (v := nI (j + 1)) (L' := [(2, .int (nI (j + 1))), (1, .int (nI 1)), (0, .ref (tw_ad G 114))]) C N dX11_unfold_91 rfl (tn_inc1 _) (by decide) rfl ?_
      refine tw_goto C dX11_unfold_94 (tgt := 65) (by decide) ?_
      rw [wA_uA]
      refine TW.c (L' := [(2, .int (nI (j + 1))), (1, .int (nI 1)), (0, .ref (tw_ad G 114))]) (by simp) ?_
      exact ih (j + 1) _ (by omega) (by omega) (fun i k1 k2 => by
        by_cases hx : i = j
        · rw [hx]; simp only [upd, if_true]
        · simp only [upd, hx, if_false]; exact hf i k1 (by omega))
  have loopB : ∀ (S2 : tw_S) (_ : MI S2 K tp ot fr T hl ck wh dr la an) (_ : tw_I S2 114 21 = nI (uF K tp 0 none).1) (_ : tw_I S2 114 22 = nI (uF K tp 0 none).2) (_ : ¬ (uF K tp 0 none).1 = 0), ∀ (d : Nat) (j : Nat) (f : Nat → Int32) (_ : j + d = 8) (hj2 : 2 ≤ j) (hf : ∀ i, 2 ≤ i → i < j → f i = (tlF (uF K tp 0 none)) i), TW G X (tw_wA (tw_uI (tw_uI (tw_uI S2 114 26 (nI 1)) 114 27 (nI (uF K tp 0 none).1)) 114 28 (nI (uF K tp 0 none).2)) 124 f) [(2, .int (nI j)), (1, .int (nI 0)), (0, .ref (tw_ad G 114))] 65 [] := by
    intro S2 hI2 h21 h22 he d
    induction d with
    | zero =>
      intro j f hj hj2 hf
      refine tw_iload_n C dX11_unfold_65 0 rfl ?_
      refine tw_bipush C dX11_unfold_66 (v := nI 8) (by decide) ?_
      refine tn_icmp_ge C dX11_unfold_68 (tgt := 97) (by decide) (by omega) (by omega) (fun c1 => ?_) (fun c1 => ?_)
      · skip
        refine tw_iload_n C dX11_unfold_97 1 rfl ?_
        refine tn_if_ne C dX11_unfold_98 (tgt := 109) (by decide) (by omega) (fun c2 => ?_) (fun c2 => ?_)
        · exact absurd c2 (by decide)
        refine tw_bipush C dX11_unfold_101 (v := (-10)) (by decide) ?_
        refine tw_aload_n C dX11_unfold_103 2 rfl ?_
        refine tw_getI (v := nI ((uF K tp 0 none).1)) (k := 21) C dX11_unfold_104 fc_X11 sh_114 (hM 114 (by decide) (by decide)) rfl (by decide) wd_584 h21 ?_
        refine tw_isub C dX11_unfold_107 (v := ((-10)) - (nI ((uF K tp 0 none).1))) rfl ?_
        exact tw_ireturn C Q dX11_unfold_108 rfl rfl rfl (by rw [if_neg he]; exact ⟨rfl, MI_tl hI2 rfl rfl (fun i k1 k2 => hf i k1 (by omega))⟩)
      · exact absurd c1 (by omega)
    | succ d ih =>
      intro j f hj hj2 hf
      refine tw_iload_n C dX11_unfold_65 0 rfl ?_
      refine tw_bipush C dX11_unfold_66 (v := nI 8) (by decide) ?_
      refine tn_icmp_ge C dX11_unfold_68 (tgt := 97) (by decide) (by omega) (by omega) (fun c1 => ?_) (fun c1 => ?_)
      · exact absurd c1 (by omega)
      refine tw_aload_n C dX11_unfold_71 2 rfl ?_
      refine tw_getR (q := 124) (k := 29) C dX11_unfold_72 fc_X11 sh_114 (hM 114 (by decide) (by decide)) rfl (by decide) wd_120 ?_
      refine tw_iload_n C dX11_unfold_75 0 rfl ?_
      refine tw_iload_n C dX11_unfold_76 1 rfl ?_
      refine tn_if_eq C dX11_unfold_77 (tgt := 89) (by decide) (by omega) (fun c2 => ?_) (fun c2 => ?_)
      · skip
        refine tw_iconst C dX11_unfold_89 (v := nI 0) (by decide) ?_
        refine tw_iast C dX11_unfold_90 sn_124 sa_124 (hM 124 (by decide) (by decide)) (by omega) (by decide) ?_
        refine tw_iinc (k := 0) (v := nI (j + 1)) (L' := [(2, .int (nI (j + 1))), (1, .int (nI 0)), (0, .ref (tw_ad G 114))]) C N dX11_unfold_91 rfl (tn_inc1 _) (by decide) rfl ?_
        refine tw_goto C dX11_unfold_94 (tgt := 65) (by decide) ?_
        rw [wA_uA]
        refine TW.c (L' := [(2, .int (nI (j + 1))), (1, .int (nI 0)), (0, .ref (tw_ad G 114))]) (by simp) ?_
        exact ih (j + 1) _ (by omega) (by omega) (fun i k1 k2 => by
          by_cases hx : i = j
          · rw [hx]; simp only [upd, if_true]; exact (tlF_0 _ j hj2 (by omega)).symm
          · simp only [upd, hx, if_false]; exact hf i k1 (by omega))
      · exact absurd c2 (by decide)
  have loop : ∀ (d : Nat) (j : Nat) (g : Nat → Int32) (_ : j + d = tp.length) (hg : ∀ i, i < j → g i = nI (tp.getD i 0)), TW G X (tw_wA (tw_uI S 114 19 (nI tp.length)) 121 g) [(1, .int (nI j)), (0, .ref (tw_ad G 114))] 10 [] := by
    intro d
    induction d with
    | zero =>
      intro j g hj hg
      refine tw_iload_n C dX11_unfold_10 0 rfl ?_
      refine tw_aload_n C dX11_unfold_11 1 rfl ?_
      refine tw_getI (v := nI tp.length) (k := 4) C dX11_unfold_12 fc_X11 sh_114 (hM 114 (by decide) (by decide)) rfl (by decide) wd_189 hI.2.1.2 ?_
      refine tn_icmp_ge C dX11_unfold_15 (tgt := 36) (by decide) (by omega) (by omega) (fun c1 => ?_) (fun c1 => ?_)
      · skip
        refine tw_aload_n C dX11_unfold_36 1 rfl ?_
        refine tw_iconst C dX11_unfold_37 (v := (-1)) (by decide) ?_
        refine tw_callV (As := [.int ((-1))]) (rest := []) C N (c_X11_unfolds hM (S := tw_wA (tw_uI S 114 19 (nI tp.length)) 121 g) (MI_rd hI) (bs := tp) (fun i hi => hg i (by omega)) rfl htl htb (z := -1) (o := none) (Or.inl ⟨rfl, rfl⟩)) mm_X11_unfolds wd_588 rfl (hM 114 (by decide) (by decide)) sh_114 rfl (by decide) rfl (Nat.le_of_ble_eq_true rfl) dX11_unfold_38 ?_
        rintro _ S2 (⟨⟨he, rfl, hP, h24, hT⟩ | ⟨he, rfl⟩, h21, h22, hI2⟩)
        · show TW G X S2 [(1, .int (nI j)), (0, .ref (tw_ad G 114))] 41 [.int (nI 1)]
          refine tw_istore_n (L' := [(1, .int (nI 1)), (0, .ref (tw_ad G 114))]) C N dX11_unfold_41 rfl (by decide) rfl ?_
          refine tw_aload_n C dX11_unfold_42 1 rfl ?_
          refine tw_iconst C dX11_unfold_43 (v := nI 1) (by decide) ?_
          refine tw_putI (k := 26) C dX11_unfold_44 fc_X11 sh_114 (hM 114 (by decide) (by decide)) rfl (by decide) rfl wd_583 rfl rfl ?_
          refine tw_aload_n C dX11_unfold_47 1 rfl ?_
          refine tw_aload_n C dX11_unfold_48 1 rfl ?_
          refine tw_getI (v := nI ((uF K tp 0 none).1)) (k := 21) C dX11_unfold_49 fc_X11 sh_114 (hM 114 (by decide) (by decide)) rfl (by decide) wd_584 h21 ?_
          refine tw_putI (k := 27) C dX11_unfold_52 fc_X11 sh_114 (hM 114 (by decide) (by decide)) rfl (by decide) rfl wd_585 rfl rfl ?_
          refine tw_aload_n C dX11_unfold_55 1 rfl ?_
          refine tw_aload_n C dX11_unfold_56 1 rfl ?_
          refine tw_getI (v := nI ((uF K tp 0 none).2)) (k := 22) C dX11_unfold_57 fc_X11 sh_114 (hM 114 (by decide) (by decide)) rfl (by decide) wd_586 h22 ?_
          refine tw_putI (k := 28) C dX11_unfold_60 fc_X11 sh_114 (hM 114 (by decide) (by decide)) rfl (by decide) rfl wd_587 rfl rfl ?_
          refine tw_iconst C dX11_unfold_63 (v := nI 2) (by decide) ?_
          refine tw_istore_n (L' := [(2, .int (nI 2)), (1, .int (nI 1)), (0, .ref (tw_ad G 114))]) C N dX11_unfold_64 rfl (by decide) rfl ?_
          refine TW.sS (S' := tw_wA (tw_uI (tw_uI (tw_uI S2 114 26 (nI 1)) 114 27 (nI (uF K tp 0 none).1)) 114 28 (nI (uF K tp 0 none).2)) 124 (tw_A (tw_uI (tw_uI (tw_uI S2 114 26 (nI 1)) 114 27 (nI (uF K tp 0 none).1)) 114 28 (nI (uF K tp 0 none).2)) 124)) (wA_self _ 124).symm ?_
          refine TW.c (L' := [(2, .int (nI 2)), (1, .int (nI 1)), (0, .ref (tw_ad G 114))]) (by simp) ?_
          exact loopG S2 hI2 h21 h22 he hP h24 hT 6 2 _ rfl (Nat.le_refl 2) (fun i k1 k2 => absurd k2 (by omega))
        · show TW G X S2 [(1, .int (nI j)), (0, .ref (tw_ad G 114))] 41 [.int (nI 0)]
          refine tw_istore_n (L' := [(1, .int (nI 0)), (0, .ref (tw_ad G 114))]) C N dX11_unfold_41 rfl (by decide) rfl ?_
          refine tw_aload_n C dX11_unfold_42 1 rfl ?_
          refine tw_iconst C dX11_unfold_43 (v := nI 1) (by decide) ?_
          refine tw_putI (k := 26) C dX11_unfold_44 fc_X11 sh_114 (hM 114 (by decide) (by decide)) rfl (by decide) rfl wd_583 rfl rfl ?_
          refine tw_aload_n C dX11_unfold_47 1 rfl ?_
          refine tw_aload_n C dX11_unfold_48 1 rfl ?_
          refine tw_getI (v := nI ((uF K tp 0 none).1)) (k := 21) C dX11_unfold_49 fc_X11 sh_114 (hM 114 (by decide) (by decide)) rfl (by decide) wd_584 h21 ?_
          refine tw_putI (k := 27) C dX11_unfold_52 fc_X11 sh_114 (hM 114 (by decide) (by decide)) rfl (by decide) rfl wd_585 rfl rfl ?_
          refine tw_aload_n C dX11_unfold_55 1 rfl ?_
          refine tw_aload_n C dX11_unfold_56 1 rfl ?_
          refine tw_getI (v := nI ((uF K tp 0 none).2)) (k := 22) C dX11_unfold_57 fc_X11 sh_114 (hM 114 (by decide) (by decide)) rfl (by decide) wd_586 h22 ?_
          refine tw_putI (k := 28) C dX11_unfold_60 fc_X11 sh_114 (hM 114 (by decide) (by decide)) rfl (by decide) rfl wd_587 rfl rfl ?_
          refine tw_iconst C dX11_unfold_63 (v := nI 2) (by decide) ?_
          refine tw_istore_n (L' := [(2, .int (nI 2)), (1, .int (nI 0)), (0, .ref (tw_ad G 114))]) C N dX11_unfold_64 rfl (by decide) rfl ?_
          refine TW.sS (S' := tw_wA (tw_uI (tw_uI (tw_uI S2 114 26 (nI 1)) 114 27 (nI (uF K tp 0 none).1)) 114 28 (nI (uF K tp 0 none).2)) 124 (tw_A (tw_uI (tw_uI (tw_uI S2 114 26 (nI 1)) 114 27 (nI (uF K tp 0 none).1)) 114 28 (nI (uF K tp 0 none).2)) 124)) (wA_self _ 124).symm ?_
          refine TW.c (L' := [(2, .int (nI 2)), (1, .int (nI 0)), (0, .ref (tw_ad G 114))]) (by simp) ?_
          exact loopB S2 hI2 h21 h22 he 6 2 _ rfl (Nat.le_refl 2) (fun i k1 k2 => absurd k2 (by omega))
      · exact absurd c1 (by omega)
    | succ d ih =>
      intro j g hj hg
      refine tw_iload_n C dX11_unfold_10 0 rfl ?_
      refine tw_aload_n C dX11_unfold_11 1 rfl ?_
      refine tw_getI (v := nI tp.length) (k := 4) C dX11_unfold_12 fc_X11 sh_114 (hM 114 (by decide) (by decide)) rfl (by decide) wd_189 hI.2.1.2 ?_
      refine tn_icmp_ge C dX11_unfold_15 (tgt := 36) (by decide) (by omega) (by omega) (fun c1 => ?_) (fun c1 => ?_)
      · exact absurd c1 (by omega)
      refine tw_aload_n C dX11_unfold_18 1 rfl ?_
      refine tw_getR (q := 121) (k := 18) C dX11_unfold_19 fc_X11 sh_114 (hM 114 (by decide) (by decide)) rfl (by decide) wd_117 ?_
      refine tw_iload_n C dX11_unfold_22 0 rfl ?_
      refine tw_aload_n C dX11_unfold_23 1 rfl ?_
      refine tw_getR (q := 118) (k := 3) C dX11_unfold_24 fc_X11 sh_114 (hM 114 (by decide) (by decide)) rfl (by decide) wd_114 ?_
      refine tw_iload_n C dX11_unfold_27 0 rfl ?_
      refine tw_iald (v := nI (tp.getD j 0)) C dX11_unfold_28 sn_118 sa_118 (hM 118 (by decide) (by decide)) (by omega) (by decide) (hI.2.1.1 j (by omega)) ?_
      refine tw_iast C dX11_unfold_29 sn_121 sa_121 (hM 121 (by decide) (by decide)) (by omega) (by decide) ?_
      refine tw_iinc (k := 0) (v := nI (j + 1)) (L' := [(1, .int (nI (j + 1))), (0, .ref (tw_ad G 114))]) C N dX11_unfold_30 rfl (tn_inc1 _) (by decide) rfl ?_
      refine tw_goto C dX11_unfold_33 (tgt := 10) (by decide) ?_
      rw [wA_uA]
      refine TW.c (L' := [(1, .int (nI (j + 1))), (0, .ref (tw_ad G 114))]) (by simp) ?_
      exact ih (j + 1) _ (by omega) (fun i hi => by
        by_cases hx : i = j
        · rw [hx]; simp [upd]
        · simp only [upd, hx, if_false]; exact hg i (by omega))
  refine tw_aload_n C dX11_unfold_0 0 rfl ?_
  refine tw_aload_n C dX11_unfold_1 0 rfl ?_
  refine tw_getI (v := nI tp.length) (k := 4) C dX11_unfold_2 fc_X11 sh_114 (hM 114 (by decide) (by decide)) rfl (by decide) wd_189 hI.2.1.2 ?_
  refine tw_putI (k := 19) C dX11_unfold_5 fc_X11 sh_114 (hM 114 (by decide) (by decide)) rfl (by decide) rfl wd_582 rfl rfl ?_
  refine TW.sS (S' := tw_wA (tw_uI S 114 19 (nI tp.length)) 121 (tw_A S 121)) (wA_self _ 121).symm ?_
  refine tw_iconst C dX11_unfold_8 (v := nI 0) (by decide) ?_
  refine tw_istore_n (L' := [(1, .int (nI 0)), (0, .ref (tw_ad G 114))]) C N dX11_unfold_9 rfl (by decide) rfl ?_
  refine TW.c (L' := [(1, .int (nI 0)), (0, .ref (tw_ad G 114))]) (by simp) ?_
  exact loop tp.length 0 _ (by omega) (fun i hi => absurd hi (by omega))
