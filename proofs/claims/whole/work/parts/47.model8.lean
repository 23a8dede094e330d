theorem c_X11_sorts {G : tw_G} (hM : tw_mG G) {S : tw_S} {K : kN} (hK : mK S K) {tp : List Nat} (hT : LA (tw_A S 118) tp) (htb : ∀ x ∈ tp, x < 256) (htl : tp.length ≤ 640) (h40 : 40 ≤ tp.length) : tw_M G yX11_sorts cX11_sorts 1 none 2 48 [.ref (tw_ad G 114)] S ri_V (fun _ S' => (fun S' => sF S S' ∧ tw_I S' 114 11 = nI ((mSrc K (nb tp 8 8) (nb tp 16 8)) / 4) ∧ tw_I S' 114 12 = nI ((mSrc K (nb tp 8 8) (nb tp 16 8)) % 4) ∧ tw_I S' 114 13 = nI (ctxN K (mSrc K (nb tp 8 8) (nb tp 16 8)) (nb tp 8 8)) ∧ tw_I S' 114 14 = nI ((mGoal K (nb tp 24 8) (nb tp 32 8)) / 8) ∧ tw_I S' 114 15 = nI ((mGoal K (nb tp 24 8) (nb tp 32 8)) / 4 % 2) ∧ tw_I S' 114 16 = nI ((mGoal K (nb tp 24 8) (nb tp 32 8)) % 4) ∧ tw_I S' 114 17 = nI (ctxN K (mGoal K (nb tp 24 8) (nb tp 32 8)) (nb tp 24 8))) S') := by
  refine tw_M.of (L := [(0, .ref (tw_ad G 114))]) (by decide) (Nat.le_of_ble_eq_true rfl) rfl (fun X C N Q => ?_)
  have C : tw_C G X cX11_sorts RX11 := C
  have p1 := mLast_le K 0 (nb tp 16 8)
  have p2 := mLast_le K 1 (nb tp 32 8)
  have p3 := mMany_le (nb tp 24 8) (nb tp 32 8)
  have p4 : nb tp 8 16 = nb tp 8 8 * 256 ^ 8 + nb tp 16 8 := nb_ad tp 8 8 8
  have p5 : nb tp 24 8 = nb tp 24 1 * 256 ^ 7 + nb tp 25 7 := nb_ad tp 24 1 7
  have p6 : nb tp 24 1 = 0 * 256 + tp.getD 24 0 := rfl
  have p7 := nb_lt htb 25 7
  have p8 := gD_lt htb 24
  have tail : ∀ (S1 : tw_S) (_ : sF S S1) (_ : tw_I S1 114 11 = nI ((mSrc K (nb tp 8 8) (nb tp 16 8)) / 4)) (_ : tw_I S1 114 12 = nI ((mSrc K (nb tp 8 8) (nb tp 16 8)) % 4)) (_ : tw_I S1 114 13 = nI (ctxN K (mSrc K (nb tp 8 8) (nb tp 16 8)) (nb tp 8 8))), TW G X S1 [(0, .ref (tw_ad G 114))] 92 [] := by
    intro S1 h1 h11 h12 h13
    have hK1 := mK_sF hK h1
    have hT1 : LA (tw_A S1 118) tp := by rw [h1.2.2.1]; exact hT
    have hP : ∀ S2, sF S1 S2 → (tw_I S2 114 11 = tw_I S1 114 11 ∧ tw_I S2 114 12 = tw_I S1 114 12 ∧ tw_I S2 114 13 = tw_I S1 114 13) → tw_I S2 114 14 = nI ((mGoal K (nb tp 24 8) (nb tp 32 8)) / 8) → tw_I S2 114 15 = nI ((mGoal K (nb tp 24 8) (nb tp 32 8)) / 4 % 2) → tw_I S2 114 16 = nI ((mGoal K (nb tp 24 8) (nb tp 32 8)) % 4) → tw_I S2 114 17 = nI (ctxN K (mGoal K (nb tp 24 8) (nb tp 32 8)) (nb tp 24 8)) → (fun S' => sF S S' ∧ tw_I S' 114 11 = nI ((mSrc K (nb tp 8 8) (nb tp 16 8)) / 4) ∧ tw_I S' 114 12 = nI ((mSrc K (nb tp 8 8) (nb tp 16 8)) % 4) ∧ tw_I S' 114 13 = nI (ctxN K (mSrc K (nb tp 8 8) (nb tp 16 8)) (nb tp 8 8)) ∧ tw_I S' 114 14 = nI ((mGoal K (nb tp 24 8) (nb tp 32 8)) / 8) ∧ tw_I S' 114 15 = nI ((mGoal K (nb tp 24 8) (nb tp 32 8)) / 4 % 2) ∧ tw_I S' 114 16 = nI ((mGoal K (nb tp 24 8) (nb tp 32 8)) % 4) ∧ tw_I S' 114 17 = nI (ctxN K (mGoal K (nb tp 24 8) (nb tp 32 8)) (nb tp 24 8))) S2 := fun S2 k1 k2 k3 k4 k5 k6 => ⟨sF_tr h1 k1, k2.1.trans h11, k2.2.1.trans h12, k2.2.2.trans h13, k3, k4, k5, k6⟩
    refine tw_aload_n C dX11_sorts_92 0 rfl ?_
    refine tw_iconst C dX11_sorts_93 (v := nI 0) (by decide) ?_
    refine tw_putI (k := 14) C dX11_sorts_94 fc_X11 sh_114 (hM 114 (by decide) (by decide)) rfl (by decide) rfl wd_395 rfl rfl ?_
    refine tw_aload_n C dX11_sorts_97 0 rfl ?_
    refine tw_iconst C dX11_sorts_98 (v := nI 0) (by decide) ?_
    refine tw_putI (k := 15) C dX11_sorts_99 fc_X11 sh_114 (hM 114 (by decide) (by decide)) rfl (by decide) rfl wd_396 rfl rfl ?_
    refine tw_aload_n C dX11_sorts_102 0 rfl ?_
    refine tw_iconst C dX11_sorts_103 (v := nI 0) (by decide) ?_
    refine tw_putI (k := 16) C dX11_sorts_104 fc_X11 sh_114 (hM 114 (by decide) (by decide)) rfl (by decide) rfl wd_397 rfl rfl ?_
    refine tw_aload_n C dX11_sorts_107 0 rfl ?_
    refine tw_iconst C dX11_sorts_108 (v := nI 0) (by decide) ?_
    refine tw_putI (k := 17) C dX11_sorts_109 fc_X11 sh_114 (hM 114 (by decide) (by decide)) rfl (by decide) rfl wd_392 rfl rfl ?_
    refine tw_aload_n C dX11_sorts_112 0 rfl ?_
    refine tw_bipush C dX11_sorts_113 (v := nI 24) (by decide) ?_
    refine tw_callV (As := [.int (nI 24)]) (rest := []) C N (c_X11_isPlain hM (S := tw_uI (tw_uI (tw_uI (tw_uI S1 114 14 (nI 0)) 114 15 (nI 0)) 114 16 (nI 0)) 114 17 (nI 0)) (tp := tp) hT1 htb htl (a := 24) (by omega)) mm_X11_isPlain wd_404 rfl (hM 114 (by decide) (by decide)) sh_114 rfl (by decide) rfl (Nat.le_of_ble_eq_true rfl) dX11_sorts_115 ?_
    rintro _ _ ⟨rfl, rfl⟩
    show TW G X (tw_uI (tw_uI (tw_uI (tw_uI S1 114 14 (nI 0)) 114 15 (nI 0)) 114 16 (nI 0)) 114 17 (nI 0)) [(0, .ref (tw_ad G 114))] 118 [.int (bI (decide (nb tp 24 8 = 18338657682652659712)))]
    refine tb_if_eq C dX11_sorts_118 (tgt := 135) (by decide) (fun cpl => ?_) (fun cpl => ?_)
    · skip
      refine tw_aload_n C dX11_sorts_135 0 rfl ?_
      refine tw_getR (q := 118) (k := 3) C dX11_sorts_136 fc_X11 sh_114 (hM 114 (by decide) (by decide)) rfl (by decide) wd_114 ?_
      refine tw_bipush C dX11_sorts_139 (v := nI 24) (by decide) ?_
      refine tw_iald (v := nI (tp.getD 24 0)) C dX11_sorts_141 sn_118 sa_118 (hM 118 (by decide) (by decide)) (by omega) (by decide) (hT1 24 (by omega)) ?_
      refine tw_sipush C dX11_sorts_142 (v := nI 255) (by decide) ?_
      refine tn_icmp_ne C dX11_sorts_145 (tgt := 164) (by decide) (by omega) (by omega) (fun c2 => ?_) (fun c2 => ?_)
      · skip
        rcases hLg : lst K (nb tp 24 8) 0 16 with _ | ig
        · skip
          refine tw_aload_n C dX11_sorts_164 0 rfl ?_
          refine tw_bipush C dX11_sorts_165 (v := nI 24) (by decide) ?_
          refine tw_callV (As := [.int (nI 24)]) (rest := []) C N (c_X11_contextOf hM (S := tw_uI (tw_uI (tw_uI (tw_uI S1 114 14 (nI 0)) 114 15 (nI 0)) 114 16 (nI 0)) 114 17 (nI 0)) (K := K) hK1 (tp := tp) hT1 htb htl (a := 24) (by omega)) mm_X11_contextOf wd_416 rfl (hM 114 (by decide) (by decide)) sh_114 rfl (by decide) rfl (Nat.le_of_ble_eq_true rfl) dX11_sorts_167 ?_
          rintro _ _ ⟨rfl, rfl⟩
          show TW G X (tw_uI (tw_uI (tw_uI (tw_uI S1 114 14 (nI 0)) 114 15 (nI 0)) 114 16 (nI 0)) 114 17 (nI 0)) [(0, .ref (tw_ad G 114))] 170 [.int (lsI (lst K (nb tp 24 8) 0 16))]
          refine TW.ti (y := (-1)) (by rw [hLg]; rfl) ?_
          refine tw_if_lt C dX11_sorts_170 (tgt := 199) (by decide) (fun ccg => ?_) (fun ccg => ?_)
          · skip
            have hg := (by rw [mGoal, if_neg (by omega), mOne, if_neg (of_decide_eq_false cpl), hLg, if_pos rfl] : (mGoal K (nb tp 24 8) (nb tp 32 8)) = 0)
            exact tw_return (v := ()) C Q dX11_sorts_199 rfl rfl (hP _ (sF_uI (sF_uI (sF_uI (sF_uI (sF_rf S1) (by decide)) (by decide)) (by decide)) (by decide)) ⟨rfl, rfl, rfl⟩ (by rw [show (mGoal K (nb tp 24 8) (nb tp 32 8)) / 8 = 0 by omega]; rfl) (by rw [show (mGoal K (nb tp 24 8) (nb tp 32 8)) / 4 % 2 = 0 by omega]; rfl) (by rw [show (mGoal K (nb tp 24 8) (nb tp 32 8)) % 4 = 0 by omega]; rfl) (by rw [show ctxN K (mGoal K (nb tp 24 8) (nb tp 32 8)) (nb tp 24 8) = 0 from (by rw [ctxN, if_neg (by omega)])]; rfl))
          · exact absurd (by decide) ccg
        · have hig := (lst_lt K _ _ _ _ hLg).2.1
          refine tw_aload_n C dX11_sorts_164 0 rfl ?_
          refine tw_bipush C dX11_sorts_165 (v := nI 24) (by decide) ?_
          refine tw_callV (As := [.int (nI 24)]) (rest := []) C N (c_X11_contextOf hM (S := tw_uI (tw_uI (tw_uI (tw_uI S1 114 14 (nI 0)) 114 15 (nI 0)) 114 16 (nI 0)) 114 17 (nI 0)) (K := K) hK1 (tp := tp) hT1 htb htl (a := 24) (by omega)) mm_X11_contextOf wd_416 rfl (hM 114 (by decide) (by decide)) sh_114 rfl (by decide) rfl (Nat.le_of_ble_eq_true rfl) dX11_sorts_167 ?_
          rintro _ _ ⟨rfl, rfl⟩
          show TW G X (tw_uI (tw_uI (tw_uI (tw_uI S1 114 14 (nI 0)) 114 15 (nI 0)) 114 16 (nI 0)) 114 17 (nI 0)) [(0, .ref (tw_ad G 114))] 170 [.int (lsI (lst K (nb tp 24 8) 0 16))]
          refine TW.ti (y := nI ig) (by rw [hLg]; rfl) ?_
          refine tn_if_lt C dX11_sorts_170 (tgt := 199) (by decide) (by omega) (fun c5 => ?_) (fun c5 => ?_)
          · exact absurd c5 id
          refine tw_aload_n C dX11_sorts_173 0 rfl ?_
          refine tw_iconst C dX11_sorts_174 (v := nI 1) (by decide) ?_
          refine tw_putI (k := 15) C dX11_sorts_175 fc_X11 sh_114 (hM 114 (by decide) (by decide)) rfl (by decide) rfl wd_396 rfl rfl ?_
          refine tw_aload_n C dX11_sorts_178 0 rfl ?_
          refine tw_aload_n C dX11_sorts_179 0 rfl ?_
          refine tw_bipush C dX11_sorts_180 (v := nI 24) (by decide) ?_
          refine tw_callV (As := [.int (nI 24)]) (rest := [.ref (tw_ad G 114)]) C N (c_X11_contextOf hM (S := tw_uI (tw_uI (tw_uI (tw_uI (tw_uI S1 114 14 (nI 0)) 114 15 (nI 0)) 114 16 (nI 0)) 114 17 (nI 0)) 114 15 (nI 1)) (K := K) hK1 (tp := tp) hT1 htb htl (a := 24) (by omega)) mm_X11_contextOf wd_416 rfl (hM 114 (by decide) (by decide)) sh_114 rfl (by decide) rfl (Nat.le_of_ble_eq_true rfl) dX11_sorts_182 ?_
          rintro _ _ ⟨rfl, rfl⟩
          show TW G X (tw_uI (tw_uI (tw_uI (tw_uI (tw_uI S1 114 14 (nI 0)) 114 15 (nI 0)) 114 16 (nI 0)) 114 17 (nI 0)) 114 15 (nI 1)) [(0, .ref (tw_ad G 114))] 185 [.int (lsI (lst K (nb tp 24 8) 0 16)), .ref (tw_ad G 114)]
          refine TW.ti (y := nI ig) (by rw [hLg]; rfl) ?_
          refine tw_putI (k := 17) C dX11_sorts_185 fc_X11 sh_114 (hM 114 (by decide) (by decide)) rfl (by decide) rfl wd_392 rfl rfl ?_
          refine tw_aload_n C dX11_sorts_188 0 rfl ?_
          refine tw_aload_n C dX11_sorts_189 0 rfl ?_
          refine tw_bipush C dX11_sorts_190 (v := nI 24) (by decide) ?_
          refine tw_iconst C dX11_sorts_192 (v := nI 1) (by decide) ?_
          refine tw_callV (As := [.int (nI 24), .int (nI 1)]) (rest := [.ref (tw_ad G 114)]) C N (c_X11_lastsOf hM (S := tw_uI (tw_uI (tw_uI (tw_uI (tw_uI (tw_uI S1 114 14 (nI 0)) 114 15 (nI 0)) 114 16 (nI 0)) 114 17 (nI 0)) 114 15 (nI 1)) 114 17 (nI ig)) (K := K) hK1 (tp := tp) hT1 htb htl (a := 24) (w := 1) (by omega) (by omega)) mm_X11_lastsOf wd_408 rfl (hM 114 (by decide) (by decide)) sh_114 rfl (by decide) rfl (Nat.le_of_ble_eq_true rfl) dX11_sorts_193 ?_
          rintro _ _ ⟨rfl, rfl⟩
          show TW G X (tw_uI (tw_uI (tw_uI (tw_uI (tw_uI (tw_uI S1 114 14 (nI 0)) 114 15 (nI 0)) 114 16 (nI 0)) 114 17 (nI 0)) 114 15 (nI 1)) 114 17 (nI ig)) [(0, .ref (tw_ad G 114))] 196 [.int (nI (mLast K 1 (nb tp 32 8))), .ref (tw_ad G 114)]
          refine tw_putI (k := 16) C dX11_sorts_196 fc_X11 sh_114 (hM 114 (by decide) (by decide)) rfl (by decide) rfl wd_397 rfl rfl ?_
          have hg := (by rw [mGoal, if_neg (by omega), mOne, if_neg (of_decide_eq_false cpl), hLg, if_neg (by simp)] : (mGoal K (nb tp 24 8) (nb tp 32 8)) = 4 + mLast K 1 (nb tp 32 8))
          exact tw_return (v := ()) C Q dX11_sorts_199 rfl rfl (hP _ (sF_uI (sF_uI (sF_uI (sF_uI (sF_uI (sF_uI (sF_uI (sF_rf S1) (by decide)) (by decide)) (by decide)) (by decide)) (by decide)) (by decide)) (by decide)) ⟨rfl, rfl, rfl⟩ (by rw [show (mGoal K (nb tp 24 8) (nb tp 32 8)) / 8 = 0 by omega]; rfl) (by rw [show (mGoal K (nb tp 24 8) (nb tp 32 8)) / 4 % 2 = 1 by omega]; rfl) (by rw [show (mGoal K (nb tp 24 8) (nb tp 32 8)) % 4 = mLast K 1 (nb tp 32 8) by omega]; rfl) (by rw [show ctxN K (mGoal K (nb tp 24 8) (nb tp 32 8)) (nb tp 24 8) = ig from (by rw [ctxN, if_pos (by omega), hLg]; rfl)]; rfl))
      · skip
        refine tw_aload_n C dX11_sorts_148 0 rfl ?_
        refine tw_iconst C dX11_sorts_149 (v := nI 1) (by decide) ?_
        refine tw_putI (k := 14) C dX11_sorts_150 fc_X11 sh_114 (hM 114 (by decide) (by decide)) rfl (by decide) rfl wd_395 rfl rfl ?_
        refine tw_aload_n C dX11_sorts_153 0 rfl ?_
        refine tw_aload_n C dX11_sorts_154 0 rfl ?_
        refine tw_callV (As := []) (rest := [.ref (tw_ad G 114)]) C N (c_X11_groupOf hM (S := tw_uI (tw_uI (tw_uI (tw_uI (tw_uI S1 114 14 (nI 0)) 114 15 (nI 0)) 114 16 (nI 0)) 114 17 (nI 0)) 114 14 (nI 1)) (tp := tp) hT1 htb htl h40) mm_X11_groupOf wd_420 rfl (hM 114 (by decide) (by decide)) sh_114 rfl (by decide) rfl (Nat.le_of_ble_eq_true rfl) dX11_sorts_155 ?_
        rintro _ _ ⟨rfl, rfl⟩
        show TW G X (tw_uI (tw_uI (tw_uI (tw_uI (tw_uI S1 114 14 (nI 0)) 114 15 (nI 0)) 114 16 (nI 0)) 114 17 (nI 0)) 114 14 (nI 1)) [(0, .ref (tw_ad G 114))] 158 [.int (nI (mMany (nb tp 24 8) (nb tp 32 8) - 8)), .ref (tw_ad G 114)]
        refine tw_putI (k := 16) C dX11_sorts_158 fc_X11 sh_114 (hM 114 (by decide) (by decide)) rfl (by decide) rfl wd_397 rfl rfl ?_
        refine tw_goto C dX11_sorts_161 (tgt := 199) (by decide) ?_
        have hg := (by rw [mGoal, if_pos (by omega)] : (mGoal K (nb tp 24 8) (nb tp 32 8)) = mMany (nb tp 24 8) (nb tp 32 8))
        exact tw_return (v := ()) C Q dX11_sorts_199 rfl rfl (hP _ (sF_uI (sF_uI (sF_uI (sF_uI (sF_uI (sF_uI (sF_rf S1) (by decide)) (by decide)) (by decide)) (by decide)) (by decide)) (by decide)) ⟨rfl, rfl, rfl⟩ (by rw [show (mGoal K (nb tp 24 8) (nb tp 32 8)) / 8 = 1 by omega]; rfl) (by rw [show (mGoal K (nb tp 24 8) (nb tp 32 8)) / 4 % 2 = 0 by omega]; rfl) (by rw [show (mGoal K (nb tp 24 8) (nb tp 32 8)) % 4 = mMany (nb tp 24 8) (nb tp 32 8) - 8 by omega]; rfl) (by rw [show ctxN K (mGoal K (nb tp 24 8) (nb tp 32 8)) (nb tp 24 8) = 0 from (by rw [ctxN, if_neg (by omega)])]; rfl))
    · skip
      refine tw_aload_n C dX11_sorts_121 0 rfl ?_
      refine tw_aload_n C dX11_sorts_122 0 rfl ?_
      refine tw_bipush C dX11_sorts_123 (v := nI 24) (by decide) ?_
      refine tw_iconst C dX11_sorts_125 (v := nI 1) (by decide) ?_
      refine tw_callV (As := [.int (nI 24), .int (nI 1)]) (rest := [.ref (tw_ad G 114)]) C N (c_X11_lastsOf hM (S := tw_uI (tw_uI (tw_uI (tw_uI S1 114 14 (nI 0)) 114 15 (nI 0)) 114 16 (nI 0)) 114 17 (nI 0)) (K := K) hK1 (tp := tp) hT1 htb htl (a := 24) (w := 1) (by omega) (by omega)) mm_X11_lastsOf wd_408 rfl (hM 114 (by decide) (by decide)) sh_114 rfl (by decide) rfl (Nat.le_of_ble_eq_true rfl) dX11_sorts_126 ?_
      rintro _ _ ⟨rfl, rfl⟩
      show TW G X (tw_uI (tw_uI (tw_uI (tw_uI S1 114 14 (nI 0)) 114 15 (nI 0)) 114 16 (nI 0)) 114 17 (nI 0)) [(0, .ref (tw_ad G 114))] 129 [.int (nI (mLast K 1 (nb tp 32 8))), .ref (tw_ad G 114)]
      refine tw_putI (k := 16) C dX11_sorts_129 fc_X11 sh_114 (hM 114 (by decide) (by decide)) rfl (by decide) rfl wd_397 rfl rfl ?_
      refine tw_goto C dX11_sorts_132 (tgt := 199) (by decide) ?_
      have hg := (by rw [mGoal, if_neg (by have := of_decide_eq_true cpl; omega), mOne, if_pos (of_decide_eq_true cpl)] : (mGoal K (nb tp 24 8) (nb tp 32 8)) = mLast K 1 (nb tp 32 8))
      exact tw_return (v := ()) C Q dX11_sorts_199 rfl rfl (hP _ (sF_uI (sF_uI (sF_uI (sF_uI (sF_uI (sF_rf S1) (by decide)) (by decide)) (by decide)) (by decide)) (by decide)) ⟨rfl, rfl, rfl⟩ (by rw [show (mGoal K (nb tp 24 8) (nb tp 32 8)) / 8 = 0 by omega]; rfl) (by rw [show (mGoal K (nb tp 24 8) (nb tp 32 8)) / 4 % 2 = 0 by omega]; rfl) (by rw [show (mGoal K (nb tp 24 8) (nb tp 32 8)) % 4 = mLast K 1 (nb tp 32 8) by omega]; rfl) (by rw [show ctxN K (mGoal K (nb tp 24 8) (nb tp 32 8)) (nb tp 24 8) = 0 from (by rw [ctxN, if_neg (by omega)])]; rfl))
  refine tw_aload_n C dX11_sorts_0 0 rfl ?_
  refine tw_iconst C dX11_sorts_1 (v := nI 0) (by decide) ?_
  refine tw_putI (k := 11) C dX11_sorts_2 fc_X11 sh_114 (hM 114 (by decide) (by decide)) rfl (by decide) rfl wd_393 rfl rfl ?_
  refine tw_aload_n C dX11_sorts_5 0 rfl ?_
  refine tw_iconst C dX11_sorts_6 (v := nI 0) (by decide) ?_
  refine tw_putI (k := 12) C dX11_sorts_7 fc_X11 sh_114 (hM 114 (by decide) (by decide)) rfl (by decide) rfl wd_394 rfl rfl ?_
  refine tw_aload_n C dX11_sorts_10 0 rfl ?_
  refine tw_iconst C dX11_sorts_11 (v := nI 0) (by decide) ?_
  refine tw_putI (k := 13) C dX11_sorts_12 fc_X11 sh_114 (hM 114 (by decide) (by decide)) rfl (by decide) rfl wd_391 rfl rfl ?_
  refine tw_aload_n C dX11_sorts_15 0 rfl ?_
  refine tw_bipush C dX11_sorts_16 (v := nI 8) (by decide) ?_
  refine tw_callV (As := [.int (nI 8)]) (rest := []) C N (c_X11_isPlain hM (S := tw_uI (tw_uI (tw_uI S 114 11 (nI 0)) 114 12 (nI 0)) 114 13 (nI 0)) (tp := tp) hT htb htl (a := 8) (by omega)) mm_X11_isPlain wd_404 rfl (hM 114 (by decide) (by decide)) sh_114 rfl (by decide) rfl (Nat.le_of_ble_eq_true rfl) dX11_sorts_18 ?_
  rintro _ _ ⟨rfl, rfl⟩
  show TW G X (tw_uI (tw_uI (tw_uI S 114 11 (nI 0)) 114 12 (nI 0)) 114 13 (nI 0)) [(0, .ref (tw_ad G 114))] 21 [.int (bI (decide (nb tp 8 8 = 18338657682652659712)))]
  refine tb_if_eq C dX11_sorts_21 (tgt := 38) (by decide) (fun cps => ?_) (fun cps => ?_)
  · skip
    refine tw_aload_n C dX11_sorts_38 0 rfl ?_
    refine tw_bipush C dX11_sorts_39 (v := nI 8) (by decide) ?_
    refine tw_bipush C dX11_sorts_41 (v := nI 24) (by decide) ?_
    refine tw_callV (As := [.int (nI 8), .int (nI 24)]) (rest := []) C N (c_X11_isZero hM (S := tw_uI (tw_uI (tw_uI S 114 11 (nI 0)) 114 12 (nI 0)) 114 13 (nI 0)) (tp := tp) hT htb htl (a := 8) (e := 24) (by omega) (by omega)) mm_X11_isZero wd_412 rfl (hM 114 (by decide) (by decide)) sh_114 rfl (by decide) rfl (Nat.le_of_ble_eq_true rfl) dX11_sorts_43 ?_
    rintro _ _ ⟨rfl, rfl⟩
    show TW G X (tw_uI (tw_uI (tw_uI S 114 11 (nI 0)) 114 12 (nI 0)) 114 13 (nI 0)) [(0, .ref (tw_ad G 114))] 46 [.int (bI (zB tp 8 16))]
    refine tb_if_eq C dX11_sorts_46 (tgt := 57) (by decide) (fun czs => ?_) (fun czs => ?_)
    · have hnz : ¬ (nb tp 8 8 = 0 ∧ nb tp 16 8 = 0) := fun h => by
        rw [zB_nb] at czs
        have := of_decide_eq_false czs
        exact this (by rw [p4]; exact or_sortz.mp h)
      rcases hLs : lst K (nb tp 8 8) 0 16 with _ | is
      · skip
        refine tw_aload_n C dX11_sorts_57 0 rfl ?_
        refine tw_bipush C dX11_sorts_58 (v := nI 8) (by decide) ?_
        refine tw_callV (As := [.int (nI 8)]) (rest := []) C N (c_X11_contextOf hM (S := tw_uI (tw_uI (tw_uI S 114 11 (nI 0)) 114 12 (nI 0)) 114 13 (nI 0)) (K := K) hK (tp := tp) hT htb htl (a := 8) (by omega)) mm_X11_contextOf wd_416 rfl (hM 114 (by decide) (by decide)) sh_114 rfl (by decide) rfl (Nat.le_of_ble_eq_true rfl) dX11_sorts_60 ?_
        rintro _ _ ⟨rfl, rfl⟩
        show TW G X (tw_uI (tw_uI (tw_uI S 114 11 (nI 0)) 114 12 (nI 0)) 114 13 (nI 0)) [(0, .ref (tw_ad G 114))] 63 [.int (lsI (lst K (nb tp 8 8) 0 16))]
        refine TW.ti (y := (-1)) (by rw [hLs]; rfl) ?_
        refine tw_if_lt C dX11_sorts_63 (tgt := 92) (by decide) (fun ccs => ?_) (fun ccs => ?_)
        · skip
          have hs := (by rw [mSrc, if_neg hnz, mOne, if_neg (of_decide_eq_false cps), hLs, if_pos rfl] : (mSrc K (nb tp 8 8) (nb tp 16 8)) = 0)
          exact tail _ (sF_uI (sF_uI (sF_uI (sF_rf S) (by decide)) (by decide)) (by decide)) (by rw [show (mSrc K (nb tp 8 8) (nb tp 16 8)) / 4 = 0 by omega]; rfl) (by rw [show (mSrc K (nb tp 8 8) (nb tp 16 8)) % 4 = 0 by omega]; rfl) (by rw [show ctxN K (mSrc K (nb tp 8 8) (nb tp 16 8)) (nb tp 8 8) = 0 from (by rw [ctxN, if_neg (by omega)])]; rfl)
        · exact absurd (by decide) ccs
      · have his := (lst_lt K _ _ _ _ hLs).2.1
        refine tw_aload_n C dX11_sorts_57 0 rfl ?_
        refine tw_bipush C dX11_sorts_58 (v := nI 8) (by decide) ?_
        refine tw_callV (As := [.int (nI 8)]) (rest := []) C N (c_X11_contextOf hM (S := tw_uI (tw_uI (tw_uI S 114 11 (nI 0)) 114 12 (nI 0)) 114 13 (nI 0)) (K := K) hK (tp := tp) hT htb htl (a := 8) (by omega)) mm_X11_contextOf wd_416 rfl (hM 114 (by decide) (by decide)) sh_114 rfl (by decide) rfl (Nat.le_of_ble_eq_true rfl) dX11_sorts_60 ?_
        rintro _ _ ⟨rfl, rfl⟩
        show TW G X (tw_uI (tw_uI (tw_uI S 114 11 (nI 0)) 114 12 (nI 0)) 114 13 (nI 0)) [(0, .ref (tw_ad G 114))] 63 [.int (lsI (lst K (nb tp 8 8) 0 16))]
        refine TW.ti (y := nI is) (by rw [hLs]; rfl) ?_
        refine tn_if_lt C dX11_sorts_63 (tgt := 92) (by decide) (by omega) (fun c5 => ?_) (fun c5 => ?_)
        · exact absurd c5 id
        refine tw_aload_n C dX11_sorts_66 0 rfl ?_
        refine tw_iconst C dX11_sorts_67 (v := nI 1) (by decide) ?_
        refine tw_putI (k := 11) C dX11_sorts_68 fc_X11 sh_114 (hM 114 (by decide) (by decide)) rfl (by decide) rfl wd_393 rfl rfl ?_
        refine tw_aload_n C dX11_sorts_71 0 rfl ?_
        refine tw_aload_n C dX11_sorts_72 0 rfl ?_
        refine tw_bipush C dX11_sorts_73 (v := nI 8) (by decide) ?_
        refine tw_callV (As := [.int (nI 8)]) (rest := [.ref (tw_ad G 114)]) C N (c_X11_contextOf hM (S := tw_uI (tw_uI (tw_uI (tw_uI S 114 11 (nI 0)) 114 12 (nI 0)) 114 13 (nI 0)) 114 11 (nI 1)) (K := K) hK (tp := tp) hT htb htl (a := 8) (by omega)) mm_X11_contextOf wd_416 rfl (hM 114 (by decide) (by decide)) sh_114 rfl (by decide) rfl (Nat.le_of_ble_eq_true rfl) dX11_sorts_75 ?_
        rintro _ _ ⟨rfl, rfl⟩
        show TW G X (tw_uI (tw_uI (tw_uI (tw_uI S 114 11 (nI 0)) 114 12 (nI 0)) 114 13 (nI 0)) 114 11 (nI 1)) [(0, .ref (tw_ad G 114))] 78 [.int (lsI (lst K (nb tp 8 8) 0 16)), .ref (tw_ad G 114)]
        refine TW.ti (y := nI is) (by rw [hLs]; rfl) ?_
        refine tw_putI (k := 13) C dX11_sorts_78 fc_X11 sh_114 (hM 114 (by decide) (by decide)) rfl (by decide) rfl wd_391 rfl rfl ?_
        refine tw_aload_n C dX11_sorts_81 0 rfl ?_
        refine tw_aload_n C dX11_sorts_82 0 rfl ?_
        refine tw_bipush C dX11_sorts_83 (v := nI 8) (by decide) ?_
        refine tw_iconst C dX11_sorts_85 (v := nI 0) (by decide) ?_
        refine tw_callV (As := [.int (nI 8), .int (nI 0)]) (rest := [.ref (tw_ad G 114)]) C N (c_X11_lastsOf hM (S := tw_uI (tw_uI (tw_uI (tw_uI (tw_uI S 114 11 (nI 0)) 114 12 (nI 0)) 114 13 (nI 0)) 114 11 (nI 1)) 114 13 (nI is)) (K := K) hK (tp := tp) hT htb htl (a := 8) (w := 0) (by omega) (by omega)) mm_X11_lastsOf wd_408 rfl (hM 114 (by decide) (by decide)) sh_114 rfl (by decide) rfl (Nat.le_of_ble_eq_true rfl) dX11_sorts_86 ?_
        rintro _ _ ⟨rfl, rfl⟩
        show TW G X (tw_uI (tw_uI (tw_uI (tw_uI (tw_uI S 114 11 (nI 0)) 114 12 (nI 0)) 114 13 (nI 0)) 114 11 (nI 1)) 114 13 (nI is)) [(0, .ref (tw_ad G 114))] 89 [.int (nI (mLast K 0 (nb tp 16 8))), .ref (tw_ad G 114)]
        refine tw_putI (k := 12) C dX11_sorts_89 fc_X11 sh_114 (hM 114 (by decide) (by decide)) rfl (by decide) rfl wd_394 rfl rfl ?_
        have hs := (by rw [mSrc, if_neg hnz, mOne, if_neg (of_decide_eq_false cps), hLs, if_neg (by simp)] : (mSrc K (nb tp 8 8) (nb tp 16 8)) = 4 + mLast K 0 (nb tp 16 8))
        exact tail _ (sF_uI (sF_uI (sF_uI (sF_uI (sF_uI (sF_uI (sF_rf S) (by decide)) (by decide)) (by decide)) (by decide)) (by decide)) (by decide)) (by rw [show (mSrc K (nb tp 8 8) (nb tp 16 8)) / 4 = 1 by omega]; rfl) (by rw [show (mSrc K (nb tp 8 8) (nb tp 16 8)) % 4 = mLast K 0 (nb tp 16 8) by omega]; rfl) (by rw [show ctxN K (mSrc K (nb tp 8 8) (nb tp 16 8)) (nb tp 8 8) = is from (by rw [ctxN, if_pos (by omega), hLs]; rfl)]; rfl)
    · skip
      refine tw_aload_n C dX11_sorts_49 0 rfl ?_
      refine tw_iconst C dX11_sorts_50 (v := nI 1) (by decide) ?_
      refine tw_putI (k := 11) C dX11_sorts_51 fc_X11 sh_114 (hM 114 (by decide) (by decide)) rfl (by decide) rfl wd_393 rfl rfl ?_
      refine tw_goto C dX11_sorts_54 (tgt := 92) (by decide) ?_
      have hs := (by rw [mSrc, if_pos (or_sortz.mpr (by rw [zB_nb] at czs; have := of_decide_eq_true czs; omega))] : (mSrc K (nb tp 8 8) (nb tp 16 8)) = 4)
      exact tail _ (sF_uI (sF_uI (sF_uI (sF_uI (sF_rf S) (by decide)) (by decide)) (by decide)) (by decide)) (by rw [show (mSrc K (nb tp 8 8) (nb tp 16 8)) / 4 = 1 by omega]; rfl) (by rw [show (mSrc K (nb tp 8 8) (nb tp 16 8)) % 4 = 0 by omega]; rfl) (by rw [show ctxN K (mSrc K (nb tp 8 8) (nb tp 16 8)) (nb tp 8 8) = 0 from (by rw [ctxN, if_neg (by omega)])]; rfl)
  · skip
    refine tw_aload_n C dX11_sorts_24 0 rfl ?_
    refine tw_aload_n C dX11_sorts_25 0 rfl ?_
    refine tw_bipush C dX11_sorts_26 (v := nI 8) (by decide) ?_
    refine tw_iconst C dX11_sorts_28 (v := nI 0) (by decide) ?_
    refine tw_callV (As := [.int (nI 8), .int (nI 0)]) (rest := [.ref (tw_ad G 114)]) C N (c_X11_lastsOf hM (S := tw_uI (tw_uI (tw_uI S 114 11 (nI 0)) 114 12 (nI 0)) 114 13 (nI 0)) (K := K) hK (tp := tp) hT htb htl (a := 8) (w := 0) (by omega) (by omega)) mm_X11_lastsOf wd_408 rfl (hM 114 (by decide) (by decide)) sh_114 rfl (by decide) rfl (Nat.le_of_ble_eq_true rfl) dX11_sorts_29 ?_
    rintro _ _ ⟨rfl, rfl⟩
    show TW G X (tw_uI (tw_uI (tw_uI S 114 11 (nI 0)) 114 12 (nI 0)) 114 13 (nI 0)) [(0, .ref (tw_ad G 114))] 32 [.int (nI (mLast K 0 (nb tp 16 8))), .ref (tw_ad G 114)]
    refine tw_putI (k := 12) C dX11_sorts_32 fc_X11 sh_114 (hM 114 (by decide) (by decide)) rfl (by decide) rfl wd_394 rfl rfl ?_
    refine tw_goto C dX11_sorts_35 (tgt := 92) (by decide) ?_
    have hs := (by rw [mSrc, if_neg (fun h => by have := of_decide_eq_true cps; omega), mOne, if_pos (of_decide_eq_true cps)] : (mSrc K (nb tp 8 8) (nb tp 16 8)) = mLast K 0 (nb tp 16 8))
    exact tail _ (sF_uI (sF_uI (sF_uI (sF_uI (sF_rf S) (by decide)) (by decide)) (by decide)) (by decide)) (by rw [show (mSrc K (nb tp 8 8) (nb tp 16 8)) / 4 = 0 by omega]; rfl) (by rw [show (mSrc K (nb tp 8 8) (nb tp 16 8)) % 4 = mLast K 0 (nb tp 16 8) by omega]; rfl) (by rw [show ctxN K (mSrc K (nb tp 8 8) (nb tp 16 8)) (nb tp 8 8) = 0 from (by rw [ctxN, if_neg (by omega)])]; rfl)
