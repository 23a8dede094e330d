/-! the model's frames: put -/
theorem mF_fb {S : tw_S} {fr fr' : List (List Nat)} {k : Nat} {f z : Nat → Int32} {x : List Nat} (h : mF S fr) (hfb : ∀ k, k < fr.length → (fr.getD k []).length ≤ 120) (g : FB S k f z x) (hx : x.length ≤ 120) (hl : fr'.length ≤ 40) (h1 : fr'.getD k [] = x) (h2 : ∀ j, j < fr'.length → j ≠ k → j < fr.length ∧ fr'.getD j [] = fr.getD j []) : mF (tw_uI (FU S f z) 114 32 (nI fr'.length)) fr' := by
  refine ⟨hl, rfl, fun j hj => ?_⟩
  by_cases hjk : j = k
  · subst hjk
    rw [h1]
    exact ⟨g.1, g.2.1⟩
  · obtain ⟨h3, h4⟩ := h2 j hj hjk
    rw [h4]
    have h5 := hfb j h3
    refine ⟨(g.2.2.1 j hjk).trans (h.2.2 j h3).1, fun q hq => ?_⟩
    exact (g.2.2.2 (120 * j + q) (by omega)).trans ((h.2.2 j h3).2 q hq)
theorem getD_push {fr : List (List Nat)} {x : List Nat} : (fr ++ [x]).getD fr.length [] = x := by simp [List.getD_eq_getElem?_getD]
theorem getD_app {fr : List (List Nat)} {x : List Nat} {j : Nat} (h : j < fr.length) : (fr ++ [x]).getD j [] = fr.getD j [] := by simp [List.getD_eq_getElem?_getD, List.getElem?_append_left h]
theorem take_st {xs : List Nat} {j : Nat} (hb : ∀ x ∈ xs, x < 256) (h : j < xs.length) : xs.take j ++ [xs.getD j 0 % 256] = xs.take (j + 1) := by
  rw [List.take_succ, Nat.mod_eq_of_lt (gD_lt hb j), List.getElem?_eq_getElem h]
  simp [List.getD_eq_getElem?_getD, List.getElem?_eq_getElem h]
theorem MI_FU {S : tw_S} {K : kN} {tp ot : List Nat} {fr : List (List Nat)} {T : Nat → Int32} {hl : List mE} {ck wh dr la an : Nat} {fr' : List (List Nat)} {f z : Nat → Int32} {x : Int32} (h : MI S K tp ot fr T hl ck wh dr la an) (g : mF (tw_uI (FU S f z) 114 32 x) fr') : MI (tw_uI (FU S f z) 114 32 x) K tp ot fr' T hl ck wh dr la an := ⟨h.1, h.2.1, h.2.2.1, g, h.2.2.2.2⟩
theorem put_end {S : tw_S} {K : kN} {tp ot : List Nat} {fr : List (List Nat)} {T : Nat → Int32} {hl : List mE} {ck wh dr la an : Nat} {k : Nat} {f z : Nat → Int32} (hI : MI S K tp ot fr T hl ck wh dr la an) (hfb : ∀ k, k < fr.length → (fr.getD k []).length ≤ 120) (g : FB S k f z tp) (h1 : 1 ≤ tp.length) (h2 : tp.length ≤ 120) (h40 : k < 40) : (k = fr.length → (putA tp fr k).1 = nI (fr.length + 1) ∧ MI (tw_uI (FU S f z) 114 32 (nI (k + 1))) K tp ot (putA tp fr k).2 T hl ck wh dr la an) ∧ (k < fr.length → (putA tp fr k).1 = nI fr.length ∧ MI (tw_uI (FU S f z) 114 32 (nI fr.length)) K tp ot (putA tp fr k).2 T hl ck wh dr la an) := by
  refine ⟨fun hk => ?_, fun hk => ?_⟩
  · subst hk
    rw [putA, if_neg (by omega), if_neg (by omega), if_neg (by omega), if_pos h40]
    refine ⟨rfl, MI_FU hI ?_⟩
    have h9 := mF_fb (fr' := fr ++ [tp]) hI.2.2.2.1 hfb g h2 (by rw [List.length_append]; exact h40) getD_push (fun j hj hjk => by
      rw [List.length_append, List.length_singleton] at hj
      have h8 : j < fr.length := by omega
      exact ⟨h8, getD_app h8⟩)
    rw [List.length_append] at h9
    exact h9
  · rw [putA, if_neg (by omega), if_neg (by omega), if_pos hk]
    refine ⟨rfl, MI_FU hI ?_⟩
    have h9 := mF_fb (fr' := fr.set k tp) hI.2.2.2.1 hfb g h2 (by rw [List.length_set]; exact hI.2.2.2.1.1) (getD_set_same hk _ _) (fun j hj hjk => ⟨by rw [List.length_set] at hj; exact hj, getD_set_ne hjk _ _⟩)
    rw [List.length_set] at h9
    exact h9
theorem c_X11_put {G : tw_G} (hM : tw_mG G) {S : tw_S} {K : kN} {tp ot : List Nat} {fr : List (List Nat)} {T : Nat → Int32} {hl : List mE} {ck wh dr la an : Nat} (hI : MI S K tp ot fr T hl ck wh dr la an) {k : Nat} (hk : k < 2 ^ 32) (htb : ∀ x ∈ tp, x < 256) (htl : tp.length ≤ 640) (hfb : ∀ k, k < fr.length → (fr.getD k []).length ≤ 120) : tw_M G yX11_put cX11_put 3 (some .int) 1 22 [.ref (tw_ad G 114), .int (nI k)] S ri_I (fun v S' => v = (putA tp fr k).1 ∧ MI S' K tp ot ((putA tp fr k).2) T hl ck wh dr la an) := by
  refine tw_M.of (L := [(0, .ref (tw_ad G 114)), (1, .int (nI k))]) (by decide) (Nat.le_of_ble_eq_true rfl) rfl (fun X C N Q => ?_)
  have C : tw_C G X cX11_put RX11 := C
  have h40 := hI.2.2.2.1.1
  have loop : k ≤ fr.length → k < 40 → 1 ≤ tp.length → tp.length ≤ 120 → ∀ (d : Nat) (j : Nat) (f z : Nat → Int32) (_ : j + d = tp.length) (hF : FB S k f z (tp.take j)), TW G X (FU S f z) [(2, .int (nI j)), (0, .ref (tw_ad G 114)), (1, .int (nI k))] 48 [] := by
    intro hle hk40 ht1 ht120 d
    induction d with
    | zero =>
      intro j f z hj hF
      have htk : (tp.take j).length ≤ j := by rw [List.length_take]; omega
      refine tw_iload_n C dX11_put_48 0 rfl ?_
      refine tw_aload_n C dX11_put_49 1 rfl ?_
      refine tw_getI (v := nI tp.length) (k := 4) C dX11_put_50 fc_X11 sh_114 (hM 114 (by decide) (by decide)) rfl (by decide) wd_189 hI.2.1.2 ?_
      refine tn_icmp_ge C dX11_put_53 (tgt := 73) (by decide) (by omega) (by omega) (fun c1 => ?_) (fun c1 => ?_)
      · skip
        have hF2 : FB S k f z tp := by rw [List.take_of_length_le (by omega)] at hF; exact hF
        refine tw_aload_n C dX11_put_73 1 rfl ?_
        refine tw_iload_n C dX11_put_74 2 rfl ?_
        refine tw_aload_n C dX11_put_75 1 rfl ?_
        refine tw_getI (v := nI fr.length) (k := 32) C dX11_put_76 fc_X11 sh_114 (hM 114 (by decide) (by decide)) rfl (by decide) wd_692 hI.2.2.2.1.2.1 ?_
        refine tn_icmp_ne C dX11_put_79 (tgt := 88) (by decide) (by omega) (by omega) (fun hkf => ?_) (fun hkf => ?_)
        · skip
          refine tw_aload_n C dX11_put_88 1 rfl ?_
          refine tw_getI (v := nI fr.length) (k := 32) C dX11_put_89 fc_X11 sh_114 (hM 114 (by decide) (by decide)) rfl (by decide) wd_692 hI.2.2.2.1.2.1 ?_
          refine tw_putI (k := 32) C dX11_put_92 fc_X11 sh_114 (hM 114 (by decide) (by decide)) rfl (by decide) rfl wd_692 rfl rfl ?_
          refine tw_aload_n C dX11_put_95 1 rfl ?_
          refine tw_getI (v := nI fr.length) (k := 32) C dX11_put_96 fc_X11 sh_114 (hM 114 (by decide) (by decide)) rfl (by decide) wd_692 rfl ?_
          exact tw_ireturn C Q dX11_put_99 rfl rfl rfl ⟨((put_end hI hfb hF2 ht1 ht120 hk40).2 (by omega)).1.symm, ((put_end hI hfb hF2 ht1 ht120 hk40).2 (by omega)).2⟩
        · skip
          refine tw_iload_n C dX11_put_82 2 rfl ?_
          refine tw_iconst C dX11_put_83 (v := nI 1) (by decide) ?_
          refine tw_iadd C dX11_put_84 (v := nI (k + 1)) (nI_add _ _) ?_
          refine tw_goto C dX11_put_85 (tgt := 92) (by decide) ?_
          refine tw_putI (k := 32) C dX11_put_92 fc_X11 sh_114 (hM 114 (by decide) (by decide)) rfl (by decide) rfl wd_692 rfl rfl ?_
          refine tw_aload_n C dX11_put_95 1 rfl ?_
          refine tw_getI (v := nI (k + 1)) (k := 32) C dX11_put_96 fc_X11 sh_114 (hM 114 (by decide) (by decide)) rfl (by decide) wd_692 rfl ?_
          exact tw_ireturn C Q dX11_put_99 rfl rfl rfl ⟨by rw [((put_end hI hfb hF2 ht1 ht120 hk40).1 (by omega)).1]; congr 1; omega, ((put_end hI hfb hF2 ht1 ht120 hk40).1 (by omega)).2⟩
      · exact absurd c1 (by omega)
    | succ d ih =>
      intro j f z hj hF
      have htk : (tp.take j).length ≤ j := by rw [List.length_take]; omega
      refine tw_iload_n C dX11_put_48 0 rfl ?_
      refine tw_aload_n C dX11_put_49 1 rfl ?_
      refine tw_getI (v := nI tp.length) (k := 4) C dX11_put_50 fc_X11 sh_114 (hM 114 (by decide) (by decide)) rfl (by decide) wd_189 hI.2.1.2 ?_
      refine tn_icmp_ge C dX11_put_53 (tgt := 73) (by decide) (by omega) (by omega) (fun c1 => ?_) (fun c1 => ?_)
      · exact absurd c1 (by omega)
      refine tw_aload_n C dX11_put_56 1 rfl ?_
      refine tw_iload_n C dX11_put_57 2 rfl ?_
      refine tw_aload_n C dX11_put_58 1 rfl ?_
      refine tw_getR (q := 118) (k := 3) C dX11_put_59 fc_X11 sh_114 (hM 114 (by decide) (by decide)) rfl (by decide) wd_114 ?_
      refine tw_iload_n C dX11_put_62 0 rfl ?_
      refine tw_iald (v := nI (tp.getD j 0)) C dX11_put_63 sn_118 sa_118 (hM 118 (by decide) (by decide)) (by omega) (by decide) (hI.2.1.1 j (by omega)) ?_
      refine tw_callV (As := [.int (nI k), .int (nI (tp.getD j 0))]) (rest := []) C N (c_X11_addTo hM (B := S) (k := k) (f := f) (z := z) (xs := tp.take j) hF (by omega) (by first | omega | (simp only [List.length_append, List.length_take, List.length_cons, List.length_nil, cutD_len, be_len]; omega)) (b := tp.getD j 0)) mm_X11_addTo wd_693 rfl (hM 114 (by decide) (by decide)) sh_114 rfl (by decide) rfl (Nat.le_of_ble_eq_true rfl) dX11_put_64 ?_
      rintro _ _ ⟨g2, yg2, rfl, hg2⟩
      show TW G X (FU S g2 yg2) [(2, .int (nI j)), (0, .ref (tw_ad G 114)), (1, .int (nI k))] 67 []
      refine tw_iinc (k := 0) (v := nI (j + 1)) (L' := [(2, .int (nI (j + 1))), (0, .ref (tw_ad G 114)), (1, .int (nI k))]) C N dX11_put_67 rfl (tn_inc1 _) (by decide) rfl ?_
      refine tw_goto C dX11_put_70 (tgt := 48) (by decide) ?_
      rw [take_st htb (by omega)] at hg2
      refine TW.c (L' := [(2, .int (nI (j + 1))), (0, .ref (tw_ad G 114)), (1, .int (nI k))]) (by simp) ?_
      exact ih (j + 1) g2 yg2 (by omega) hg2
  refine tw_iload_n C dX11_put_0 1 rfl ?_
  refine tw_iconst C dX11_put_1 (v := nI 0) (by decide) ?_
  refine tw_aload_n C dX11_put_2 0 rfl ?_
  refine tw_getI (v := nI fr.length) (k := 32) C dX11_put_3 fc_X11 sh_114 (hM 114 (by decide) (by decide)) rfl (by decide) wd_692 hI.2.2.2.1.2.1 ?_
  refine tw_callS (As := [.int (nI k), .int (nI 0), .int (nI fr.length)]) (rest := []) C N (c_X11_in1 (S := S) (v := k) (lo := 0) (hi := fr.length) (by omega) (by omega) (by omega)) mm_X11_in wd_135 rfl (by decide) rfl (Nat.le_of_ble_eq_true rfl) dX11_put_6 ?_
  rintro _ _ ⟨rfl, rfl⟩
  show TW G X S [(0, .ref (tw_ad G 114)), (1, .int (nI k))] 9 [.int (bI (decide (0 ≤ k ∧ k ≤ fr.length)))]
  refine tb_if_ne C dX11_put_9 (tgt := 14) (by decide) (fun cg => ?_) (fun cg => ?_)
  · have hle := (of_decide_eq_true cg).2
    refine tw_aload_n C dX11_put_14 0 rfl ?_
    refine tw_getI (v := nI tp.length) (k := 4) C dX11_put_15 fc_X11 sh_114 (hM 114 (by decide) (by decide)) rfl (by decide) wd_189 hI.2.1.2 ?_
    refine tw_iconst C dX11_put_18 (v := nI 1) (by decide) ?_
    refine tw_bipush C dX11_put_19 (v := nI 120) (by decide) ?_
    refine tw_callS (As := [.int (nI tp.length), .int (nI 1), .int (nI 120)]) (rest := []) C N (c_X11_in1 (S := S) (v := tp.length) (lo := 1) (hi := 120) (by omega) (by omega) (by omega)) mm_X11_in wd_135 rfl (by decide) rfl (Nat.le_of_ble_eq_true rfl) dX11_put_21 ?_
    rintro _ _ ⟨rfl, rfl⟩
    show TW G X S [(0, .ref (tw_ad G 114)), (1, .int (nI k))] 24 [.int (bI (decide (1 ≤ tp.length ∧ tp.length ≤ 120)))]
    refine tb_if_ne C dX11_put_24 (tgt := 30) (by decide) (fun ch2 => ?_) (fun ch2 => ?_)
    · have ht := of_decide_eq_true ch2
      refine tw_iload_n C dX11_put_30 1 rfl ?_
      refine tw_bipush C dX11_put_31 (v := nI 40) (by decide) ?_
      refine tn_icmp_ne C dX11_put_33 (tgt := 39) (by decide) (by omega) (by omega) (fun c3 => ?_) (fun c3 => ?_)
      · skip
        refine TW.sS (S' := FU S (tw_A S 125) (tw_A S 126)) (FU_self S) ?_
        refine tw_aload_n C dX11_put_39 0 rfl ?_
        refine tw_getR (q := 126) (k := 31) C dX11_put_40 fc_X11 sh_114 (hM 114 (by decide) (by decide)) rfl (by decide) wd_122 ?_
        refine tw_iload_n C dX11_put_43 1 rfl ?_
        refine tw_iconst C dX11_put_44 (v := nI 0) (by decide) ?_
        refine tw_iast C dX11_put_45 sn_126 sa_126 (hM 126 (by decide) (by decide)) (by omega) (by decide) ?_
        refine TW.sS (S' := FU S (tw_A S 125) (upd (tw_A S 126) k (nI 0))) (FU_uA6 _ _ _ _ _) ?_
        refine tw_iconst C dX11_put_46 (v := nI 0) (by decide) ?_
        refine tw_istore_n (L' := [(2, .int (nI 0)), (0, .ref (tw_ad G 114)), (1, .int (nI k))]) C N dX11_put_47 rfl (by decide) rfl ?_
        refine TW.c (L' := [(2, .int (nI 0)), (0, .ref (tw_ad G 114)), (1, .int (nI k))]) (by simp) ?_
        exact loop hle (by omega) ht.1 ht.2 tp.length 0 _ _ (by omega) (FB_new S k)
      · skip
        refine tw_bipush C dX11_put_36 (v := (-3)) (by decide) ?_
        exact tw_ireturn C Q dX11_put_38 rfl rfl rfl (by rw [putA, if_neg (by omega), if_neg (by omega), if_neg (by omega), if_neg (by omega)]; exact ⟨rfl, hI⟩)
    · skip
      refine tw_bipush C dX11_put_27 (v := (-2)) (by decide) ?_
      exact tw_ireturn C Q dX11_put_29 rfl rfl rfl (by rw [putA, if_neg (by omega), if_pos (by have := of_decide_eq_false ch2; omega)]; exact ⟨rfl, hI⟩)
  · skip
    refine tw_iconst C dX11_put_12 (v := (-1)) (by decide) ?_
    exact tw_ireturn C Q dX11_put_13 rfl rfl rfl (by rw [putA, if_pos (by have := of_decide_eq_false cg; omega)]; exact ⟨rfl, hI⟩)
