theorem cov_mod {n j : Nat} (hn : 1 ≤ n) (h40 : n ≤ 40) (hj : j < n) : ∃ t, 150 < t ∧ t < 200 ∧ t % n = j := by
  have h1 := Nat.div_add_mod 199 n
  have h2 := Nat.mod_lt 199 (show 0 < n by omega)
  generalize 199 / n = q at h1
  by_cases h : n * q + j < 200
  · exact ⟨n * q + j, by omega, h, by rw [Nat.mul_add_mod, Nat.mod_eq_of_lt hj]⟩
  · cases q with
    | zero => rw [Nat.mul_zero] at h1; omega
    | succ q =>
      rw [Nat.mul_succ] at h1 h
      exact ⟨n * q + j, by omega, by omega, by rw [Nat.mul_add_mod, Nat.mod_eq_of_lt hj]⟩
theorem law_289 {G GM : tw_G} {X : tw_X} (hG : tw_cG G) (hM : tw_cG GM) (hdj : ∀ q, q ∈ tw_LA GM → q ∉ tw_LA G) (hll : tw_l GM = tw_l G) (C : tw_C G X cL_law RL) (CM : tw_C GM X cL_law RL) (NN : tw_N X 13 10 364) (hsn : tw_sn G ≤ 260) {ah : Nat} (hah1 : ah ∉ tw_LA G) (hah2 : ah ∉ tw_LA GM) (hah3 : tx_A X ah) (hAW : ∀ f : Nat → Int32, AW G GM [(ah, .inl (tw_cy G 0, 64, .inl f))]) {K : kN} {fr fo fq : List (List Nat)} {tpo tpq : List Nat} {z n : Nat} {RV : (Nat → cH) → (Nat → Bool) → Bool → Prop} {FP : List Nat → Prop} {h0 : Nat → Bool} {mo : Bool} {Sc : tw_S} (M : MD K fr z n RV FP) (hn1 : 1 ≤ n) (hn40 : n ≤ 40) (hz : z ≤ 200) (hO : OS Sc K tpo fo n RV FP true h0 false) (ha0 : ∀ k, k < n → h0 k = true) (hfq : ∀ k, k < n → fq.getD k [] = fr.getD k []) (hfl : n ≤ fq.length) (hmo : mo = true → 1 < n ∧ fq.getD n [] = W13 ∧ n < fq.length) (kend : ∀ (Sc Sm : tw_S) (wl : va_W) (L : List (Nat × Value)), T3 G GM X Sc Sm wl L 609 [.int (nI 1)]) : ∀ (d k : Nat) (h : Nat → Bool) (f : Nat → Int32) (Sm : tw_S), k + d = 200 → HD f h → OS Sm K tpq fq n RV FP false h (mo && decide (3 < k)) → (∀ j, 150 < j → j < k → h (j % n) = true) → T3 G GM X Sc Sm ([(ah, .inl (tw_cy G 0, 64, .inl f))]) [(10, .int (nI k)), (9, .int (nI (lfN n h))), (8, .ref ah), (7, .int (bI mo)), (6, .int (nI n)), (4, .int (nI z)), (3, .int (nI 1)), (2, .ref (tw_ad GM 0)), (1, .ref (tw_ad G 0)), (0, .ref (tw_sb G))] 289 [] := by
  have t464 : ∀ (h : Nat → Bool) (f : Nat → Int32) (Sm : tw_S) (x : Bool), (∀ k, k < n → h k = true) → OS Sm K tpq fq n RV FP false h x → (x = true → mo = true) → T3 G GM X Sc Sm ([(ah, .inl (tw_cy G 0, 64, .inl f))]) [(9, .int (nI 0)), (7, .int (bI mo)), (4, .int (nI z)), (3, .int (nI 1)), (2, .ref (tw_ad GM 0)), (1, .ref (tw_ad G 0))] 464 [] := by
    intro h f Sm x ha hQ hx
    obtain ⟨Fo, To, co, dro, lao, ano, hC, hR, hd0, hFo⟩ := OS_all hO ha0
    obtain ⟨Fq, Tm, cm, drm, lam, anm, hCm, hRm, -, hFq⟩ := OS_all hQ ha
    have e := M.2.2.2.1 Fo Fq hFo hFq
    subst e
    exact law_464 hG hM hdj hll C CM NN hsn (hAW f) M hC hR (hd0 rfl) ha0 hCm hRm ha (M.2.2.2.2.1 _ hFo) hz hx kend
  intro d
  induction d with
  | zero =>
    intro k h f Sm hk Hf hQ hcov
    have hlf := lfN_le n h
    refine t3_iload C dL_law_289 0 rfl ?_
    refine t3_sipush C dL_law_291 (v := nI 200) (by decide) ?_
    refine t3n_icmp_ge C dL_law_294 (tgt := 464) (by decide) (by omega) (by omega) (fun c1 => ?_) (fun c1 => ?_)
    · skip
      have ha : ∀ j, j < n → h j = true := fun j hj => by
        obtain ⟨t, a1, a2, a3⟩ := cov_mod hn1 hn40 hj
        rw [← a3]; exact hcov t a1 (by omega)
      rw [lfN_0.mpr ha]
      exact T3.c (by simp) (t464 h f Sm _ ha hQ (fun g => by cases hmq : mo with | true => rfl | false => rw [hmq] at g; cases g))
    · exact absurd c1 (by omega)
  | succ d ih =>
    intro k h f Sm hk Hf hQ hcov
    have hlf := lfN_le n h
    have t351 : 0 < lfN n h → ∀ i, i < n → (150 < k → i = k % n) → T3 G GM X Sc Sm ([(ah, .inl (tw_cy G 0, 64, .inl f))]) [(11, .int (nI i)), (10, .int (nI k)), (9, .int (nI (lfN n h))), (8, .ref ah), (7, .int (bI mo)), (6, .int (nI n)), (4, .int (nI z)), (3, .int (nI 1)), (2, .ref (tw_ad GM 0)), (1, .ref (tw_ad G 0)), (0, .ref (tw_sb G))] 351 [] := by
      intro hl1 i hi hik
      have t394 : ∀ (Sm1 : tw_S), OS Sm1 K tpq fq n RV FP false h (mo && decide (3 < k + 1)) → T3 G GM X Sc Sm1 ([(ah, .inl (tw_cy G 0, 64, .inl f))]) [(11, .int (nI i)), (10, .int (nI k)), (9, .int (nI (lfN n h))), (8, .ref ah), (7, .int (bI mo)), (6, .int (nI n)), (4, .int (nI z)), (3, .int (nI 1)), (2, .ref (tw_ad GM 0)), (1, .ref (tw_ad G 0)), (0, .ref (tw_sb G))] 394 [] := by
        intro Sm1 hQ1
        obtain ⟨ot, T, c, wh, dr, la, an, hCm, hR, hd, hw⟩ := hQ1
        refine T3.wf (fun _ hwm => ?_)
        have hlu := lfN_le n (upH h i)
        rcases (show h i = true ∨ h i = false by cases h i <;> simp) with hh | hh
        · skip
          refine t3_aload_n C dL_law_394 8 rfl ?_
          refine t3_iload C dL_law_395 0 rfl ?_
          refine t3_callVM (As := [.int (nI i)]) (rest := []) hdj hll (hAW f) CM NN (c_X10_hear hM (S := Sm1) hCm (k := i) (by omega) (by decide) (M.2.2.2.2.2.2.1 _ _ _ hR) (wf_fb hM hwm hCm)) mm_X10_hear wd_333 rfl (hM 0 (by decide)) sh_0 rfl (by decide) rfl (Nat.le_of_ble_eq_true rfl) dL_law_397 ?_
          intro v Sm2 hp
          show T3 G GM X Sc Sm2 ([(ah, .inl (tw_cy G 0, 64, .inl f))]) [(11, .int (nI i)), (10, .int (nI k)), (9, .int (nI (lfN n h))), (8, .ref ah), (7, .int (bI mo)), (6, .int (nI n)), (4, .int (nI z)), (3, .int (nI 1)), (2, .ref (tw_ad GM 0)), (1, .ref (tw_ad G 0)), (0, .ref (tw_sb G))] 400 [.int v]
          obtain ⟨hQ2, hv⟩ := OS_old M hi (hfq i hi) (by omega) hh (lfN_no (by omega)) hR hw hp
          refine T3.ti (y := nI 0) hv ?_
          refine t3_istore (L' := [(12, .int (nI 0)), (11, .int (nI i)), (10, .int (nI k)), (9, .int (nI (lfN n h))), (8, .ref ah), (7, .int (bI mo)), (6, .int (nI n)), (4, .int (nI z)), (3, .int (nI 1)), (2, .ref (tw_ad GM 0)), (1, .ref (tw_ad G 0)), (0, .ref (tw_sb G))]) C NN dL_law_400 (i := 12) (by decide) rfl ?_
          refine t3_iload C dL_law_402 3 rfl ?_
          refine t3_iconst C dL_law_404 (v := nI 1) (by decide) ?_
          refine t3_aload C dL_law_405 4 rfl ?_
          refine t3_iload C dL_law_407 1 rfl ?_
          refine t3_iald (v := nI 1) C dL_law_409 (by omega) (by decide) ((Hf i (by omega)).trans (by rw [hh]; rfl)) ?_
          refine t3_isub C dL_law_410 (v := nI 0) (by decide) ?_
          refine t3_isub C dL_law_411 (v := nI (lfN n h)) (pk_sub (Nat.zero_le _)) ?_
          refine t3_istore (L' := [(9, .int (nI (lfN n h))), (12, .int (nI 0)), (11, .int (nI i)), (10, .int (nI k)), (8, .ref ah), (7, .int (bI mo)), (6, .int (nI n)), (4, .int (nI z)), (3, .int (nI 1)), (2, .ref (tw_ad GM 0)), (1, .ref (tw_ad G 0)), (0, .ref (tw_sb G))]) C NN dL_law_412 (i := 9) (by decide) rfl ?_
          refine t3_iload_n C dL_law_414 8 rfl ?_
          refine t3n_if_eq C dL_law_415 (tgt := 450) (by decide) (by omega) (fun c1 => ?_) (fun c1 => ?_)
          · exact absurd c1 (by decide)
          refine t3_iload C dL_law_418 1 rfl ?_
          refine t3_iload C dL_law_420 0 rfl ?_
          refine t3n_if_ne C dL_law_422 (tgt := 429) (by decide) (by omega) (fun c2 => ?_) (fun c2 => ?_)
          · skip
            refine t3_aload C dL_law_429 4 rfl ?_
            refine t3_iload C dL_law_431 2 rfl ?_
            refine t3_iald (v := nI 1) C dL_law_433 (by omega) (by decide) ((Hf i (by omega)).trans (by rw [hh]; rfl)) ?_
            refine t3_iconst C dL_law_434 (v := nI 1) (by decide) ?_
            refine t3n_icmp_ne C dL_law_435 (tgt := 442) (by decide) (by omega) (by omega) (fun c3 => ?_) (fun c3 => ?_)
            · exact absurd c3 (by decide)
            refine t3_iconst C dL_law_438 (v := nI 0) (by decide) ?_
            refine t3_goto C dL_law_439 (tgt := 443) (by decide) ?_
            refine t3n_icmp_ne C dL_law_443 (tgt := 450) (by decide) (by omega) (by omega) (fun c4 => ?_) (fun c4 => ?_)
            · exact absurd c4 (by decide)
            refine t3_iconst C dL_law_446 (v := nI 1) (by decide) ?_
            refine t3_goto C dL_law_447 (tgt := 451) (by decide) ?_
            refine t3_istore_n (L' := [(3, .int (nI 1)), (9, .int (nI (lfN n h))), (12, .int (nI 0)), (11, .int (nI i)), (10, .int (nI k)), (8, .ref ah), (7, .int (bI mo)), (6, .int (nI n)), (4, .int (nI z)), (2, .ref (tw_ad GM 0)), (1, .ref (tw_ad G 0)), (0, .ref (tw_sb G))]) C NN dL_law_451 rfl (by decide) rfl ?_
            refine t3_aload C dL_law_452 5 rfl ?_
            refine t3_iload C dL_law_454 3 rfl ?_
            refine t3_iconst C dL_law_456 (v := nI 1) (by decide) ?_
            refine t3_iast C dL_law_457 (by omega) (by decide) hah1 hah2 hah3 ?_
            refine t3_iinc (k := 4) (v := nI (k + 1)) (L' := [(10, .int (nI (k + 1))), (3, .int (nI 1)), (9, .int (nI (lfN n h))), (12, .int (nI 0)), (11, .int (nI i)), (8, .ref ah), (7, .int (bI mo)), (6, .int (nI n)), (4, .int (nI z)), (2, .ref (tw_ad GM 0)), (1, .ref (tw_ad G 0)), (0, .ref (tw_sb G))]) C NN dL_law_458 rfl (tn_inc1 _) (by decide) rfl ?_
            refine t3_goto C dL_law_461 (tgt := 289) (by decide) ?_
            refine T3.c (L' := [(10, .int (nI (k + 1))), (9, .int (nI (lfN n h))), (8, .ref ah), (7, .int (bI mo)), (6, .int (nI n)), (4, .int (nI z)), (3, .int (nI 1)), (2, .ref (tw_ad GM 0)), (1, .ref (tw_ad G 0)), (0, .ref (tw_sb G))]) (by simp) ?_
            exact ih (k + 1) h _ Sm2 (by omega) (HD_at Hf hh) hQ2 (fun j a g => by
              rcases Nat.lt_or_ge j k with g2 | g2
              · exact hcov j a g2
              · have e : j = k := by omega
                subst e; rw [← hik a]; exact hh)
          · exact absurd c2 (by omega)
        · skip
          refine t3_aload_n C dL_law_394 8 rfl ?_
          refine t3_iload C dL_law_395 0 rfl ?_
          refine t3_callVM (As := [.int (nI i)]) (rest := []) hdj hll (hAW f) CM NN (c_X10_hear hM (S := Sm1) hCm (k := i) (by omega) (by decide) (M.2.2.2.2.2.2.1 _ _ _ hR) (wf_fb hM hwm hCm)) mm_X10_hear wd_333 rfl (hM 0 (by decide)) sh_0 rfl (by decide) rfl (Nat.le_of_ble_eq_true rfl) dL_law_397 ?_
          intro v Sm2 hp
          show T3 G GM X Sc Sm2 ([(ah, .inl (tw_cy G 0, 64, .inl f))]) [(11, .int (nI i)), (10, .int (nI k)), (9, .int (nI (lfN n h))), (8, .ref ah), (7, .int (bI mo)), (6, .int (nI n)), (4, .int (nI z)), (3, .int (nI 1)), (2, .ref (tw_ad GM 0)), (1, .ref (tw_ad G 0)), (0, .ref (tw_sb G))] 400 [.int v]
          obtain ⟨hQ2, hvv⟩ := OS_new M (by omega) hi (hfq i hi) (by omega) hh hR hd hw hp
          rcases hvv with ⟨hv, hna⟩ | ⟨hv, hal⟩
          · have hl0 : ¬ lfN n (upH h i) = 0 := by obtain ⟨k2, a, g⟩ := hna; exact lfN_some a g
            refine T3.ti (y := nI 1) hv ?_
            refine t3_istore (L' := [(12, .int (nI 1)), (11, .int (nI i)), (10, .int (nI k)), (9, .int (nI (lfN n h))), (8, .ref ah), (7, .int (bI mo)), (6, .int (nI n)), (4, .int (nI z)), (3, .int (nI 1)), (2, .ref (tw_ad GM 0)), (1, .ref (tw_ad G 0)), (0, .ref (tw_sb G))]) C NN dL_law_400 (i := 12) (by decide) rfl ?_
            refine t3_iload C dL_law_402 3 rfl ?_
            refine t3_iconst C dL_law_404 (v := nI 1) (by decide) ?_
            refine t3_aload C dL_law_405 4 rfl ?_
            refine t3_iload C dL_law_407 1 rfl ?_
            refine t3_iald (v := nI 0) C dL_law_409 (by omega) (by decide) ((Hf i (by omega)).trans (by rw [hh]; rfl)) ?_
            refine t3_isub C dL_law_410 (v := nI 1) (by decide) ?_
            refine t3_isub C dL_law_411 (v := nI (lfN n (upH h i))) ((pk_sub (by omega)).trans (congrArg nI (by have := lfN_up hi hh; omega))) ?_
            refine t3_istore (L' := [(9, .int (nI (lfN n (upH h i)))), (12, .int (nI 1)), (11, .int (nI i)), (10, .int (nI k)), (8, .ref ah), (7, .int (bI mo)), (6, .int (nI n)), (4, .int (nI z)), (3, .int (nI 1)), (2, .ref (tw_ad GM 0)), (1, .ref (tw_ad G 0)), (0, .ref (tw_sb G))]) C NN dL_law_412 (i := 9) (by decide) rfl ?_
            refine t3_iload_n C dL_law_414 8 rfl ?_
            refine t3n_if_eq C dL_law_415 (tgt := 450) (by decide) (by omega) (fun c5 => ?_) (fun c5 => ?_)
            · exact absurd c5 (by decide)
            refine t3_iload C dL_law_418 1 rfl ?_
            refine t3_iload C dL_law_420 0 rfl ?_
            refine t3n_if_ne C dL_law_422 (tgt := 429) (by decide) (by omega) (fun c6 => ?_) (fun c6 => ?_)
            · skip
              refine t3_aload C dL_law_429 4 rfl ?_
              refine t3_iload C dL_law_431 2 rfl ?_
              refine t3_iald (v := nI 0) C dL_law_433 (by omega) (by decide) ((Hf i (by omega)).trans (by rw [hh]; rfl)) ?_
              refine t3_iconst C dL_law_434 (v := nI 1) (by decide) ?_
              refine t3n_icmp_ne C dL_law_435 (tgt := 442) (by decide) (by omega) (by omega) (fun c7 => ?_) (fun c7 => ?_)
              · skip
                refine t3_iconst C dL_law_442 (v := nI 1) (by decide) ?_
                refine t3n_icmp_ne C dL_law_443 (tgt := 450) (by decide) (by omega) (by omega) (fun c8 => ?_) (fun c8 => ?_)
                · exact absurd c8 (by decide)
                refine t3_iconst C dL_law_446 (v := nI 1) (by decide) ?_
                refine t3_goto C dL_law_447 (tgt := 451) (by decide) ?_
                refine t3_istore_n (L' := [(3, .int (nI 1)), (9, .int (nI (lfN n (upH h i)))), (12, .int (nI 1)), (11, .int (nI i)), (10, .int (nI k)), (8, .ref ah), (7, .int (bI mo)), (6, .int (nI n)), (4, .int (nI z)), (2, .ref (tw_ad GM 0)), (1, .ref (tw_ad G 0)), (0, .ref (tw_sb G))]) C NN dL_law_451 rfl (by decide) rfl ?_
                refine t3_aload C dL_law_452 5 rfl ?_
                refine t3_iload C dL_law_454 3 rfl ?_
                refine t3_iconst C dL_law_456 (v := nI 1) (by decide) ?_
                refine t3_iast C dL_law_457 (by omega) (by decide) hah1 hah2 hah3 ?_
                refine t3_iinc (k := 4) (v := nI (k + 1)) (L' := [(10, .int (nI (k + 1))), (3, .int (nI 1)), (9, .int (nI (lfN n (upH h i)))), (12, .int (nI 1)), (11, .int (nI i)), (8, .ref ah), (7, .int (bI mo)), (6, .int (nI n)), (4, .int (nI z)), (2, .ref (tw_ad GM 0)), (1, .ref (tw_ad G 0)), (0, .ref (tw_sb G))]) C NN dL_law_458 rfl (tn_inc1 _) (by decide) rfl ?_
                refine t3_goto C dL_law_461 (tgt := 289) (by decide) ?_
                refine T3.c (L' := [(10, .int (nI (k + 1))), (9, .int (nI (lfN n (upH h i)))), (8, .ref ah), (7, .int (bI mo)), (6, .int (nI n)), (4, .int (nI z)), (3, .int (nI 1)), (2, .ref (tw_ad GM 0)), (1, .ref (tw_ad G 0)), (0, .ref (tw_sb G))]) (by simp) ?_
                exact ih (k + 1) (upH h i) _ Sm2 (by omega) (HD_up Hf) hQ2 (fun j a g => by
                  unfold upH
                  by_cases e2 : j % n = i
                  · rw [if_pos e2]
                  · rw [if_neg e2]
                    rcases Nat.lt_or_ge j k with g2 | g2
                    · exact hcov j a g2
                    · have e : j = k := by omega
                      subst e; exact absurd (hik a).symm e2)
              · exact absurd c7 (by omega)
            · exact absurd c6 (by omega)
          · have hl0 : lfN n (upH h i) = 0 := lfN_0.mpr hal
            refine T3.ti (y := nI 2) hv ?_
            refine t3_istore (L' := [(12, .int (nI 2)), (11, .int (nI i)), (10, .int (nI k)), (9, .int (nI (lfN n h))), (8, .ref ah), (7, .int (bI mo)), (6, .int (nI n)), (4, .int (nI z)), (3, .int (nI 1)), (2, .ref (tw_ad GM 0)), (1, .ref (tw_ad G 0)), (0, .ref (tw_sb G))]) C NN dL_law_400 (i := 12) (by decide) rfl ?_
            refine t3_iload C dL_law_402 3 rfl ?_
            refine t3_iconst C dL_law_404 (v := nI 1) (by decide) ?_
            refine t3_aload C dL_law_405 4 rfl ?_
            refine t3_iload C dL_law_407 1 rfl ?_
            refine t3_iald (v := nI 0) C dL_law_409 (by omega) (by decide) ((Hf i (by omega)).trans (by rw [hh]; rfl)) ?_
            refine t3_isub C dL_law_410 (v := nI 1) (by decide) ?_
            refine t3_isub C dL_law_411 (v := nI (lfN n (upH h i))) ((pk_sub (by omega)).trans (congrArg nI (by have := lfN_up hi hh; omega))) ?_
            refine t3_istore (L' := [(9, .int (nI (lfN n (upH h i)))), (12, .int (nI 2)), (11, .int (nI i)), (10, .int (nI k)), (8, .ref ah), (7, .int (bI mo)), (6, .int (nI n)), (4, .int (nI z)), (3, .int (nI 1)), (2, .ref (tw_ad GM 0)), (1, .ref (tw_ad G 0)), (0, .ref (tw_sb G))]) C NN dL_law_412 (i := 9) (by decide) rfl ?_
            refine t3_iload_n C dL_law_414 8 rfl ?_
            refine t3n_if_eq C dL_law_415 (tgt := 450) (by decide) (by omega) (fun c9 => ?_) (fun c9 => ?_)
            · exact absurd c9 (by decide)
            refine t3_iload C dL_law_418 1 rfl ?_
            refine t3_iload C dL_law_420 0 rfl ?_
            refine t3n_if_ne C dL_law_422 (tgt := 429) (by decide) (by omega) (fun c10 => ?_) (fun c10 => ?_)
            · exact absurd c10 (by omega)
            refine t3_iconst C dL_law_425 (v := nI 2) (by decide) ?_
            refine t3_goto C dL_law_426 (tgt := 443) (by decide) ?_
            refine t3n_icmp_ne C dL_law_443 (tgt := 450) (by decide) (by omega) (by omega) (fun c11 => ?_) (fun c11 => ?_)
            · exact absurd c11 (by decide)
            refine t3_iconst C dL_law_446 (v := nI 1) (by decide) ?_
            refine t3_goto C dL_law_447 (tgt := 451) (by decide) ?_
            refine t3_istore_n (L' := [(3, .int (nI 1)), (9, .int (nI (lfN n (upH h i)))), (12, .int (nI 2)), (11, .int (nI i)), (10, .int (nI k)), (8, .ref ah), (7, .int (bI mo)), (6, .int (nI n)), (4, .int (nI z)), (2, .ref (tw_ad GM 0)), (1, .ref (tw_ad G 0)), (0, .ref (tw_sb G))]) C NN dL_law_451 rfl (by decide) rfl ?_
            refine t3_aload C dL_law_452 5 rfl ?_
            refine t3_iload C dL_law_454 3 rfl ?_
            refine t3_iconst C dL_law_456 (v := nI 1) (by decide) ?_
            refine t3_iast C dL_law_457 (by omega) (by decide) hah1 hah2 hah3 ?_
            refine t3_iinc (k := 4) (v := nI (k + 1)) (L' := [(10, .int (nI (k + 1))), (3, .int (nI 1)), (9, .int (nI (lfN n (upH h i)))), (12, .int (nI 2)), (11, .int (nI i)), (8, .ref ah), (7, .int (bI mo)), (6, .int (nI n)), (4, .int (nI z)), (2, .ref (tw_ad GM 0)), (1, .ref (tw_ad G 0)), (0, .ref (tw_sb G))]) C NN dL_law_458 rfl (tn_inc1 _) (by decide) rfl ?_
            refine t3_goto C dL_law_461 (tgt := 289) (by decide) ?_
            refine T3.c (L' := [(10, .int (nI (k + 1))), (9, .int (nI (lfN n (upH h i)))), (8, .ref ah), (7, .int (bI mo)), (6, .int (nI n)), (4, .int (nI z)), (3, .int (nI 1)), (2, .ref (tw_ad GM 0)), (1, .ref (tw_ad G 0)), (0, .ref (tw_sb G))]) (by simp) ?_
            exact ih (k + 1) (upH h i) _ Sm2 (by omega) (HD_up Hf) hQ2 (fun j a g => by
              unfold upH
              by_cases e2 : j % n = i
              · rw [if_pos e2]
              · rw [if_neg e2]
                rcases Nat.lt_or_ge j k with g2 | g2
                · exact hcov j a g2
                · have e : j = k := by omega
                  subst e; exact absurd (hik a).symm e2)
      refine t3_iload C dL_law_351 4 rfl ?_
      refine t3b_if_eq C dL_law_353 (tgt := 394) (by decide) (fun hmt => ?_) (fun hmt => ?_)
      · have hxx : (mo && decide (3 < k + 1)) = (mo && decide (3 < k)) := by rw [hmt]; rfl
        exact T3.c (by simp) (t394 Sm (by rw [hxx]; exact hQ))
      · skip
        refine t3_iload C dL_law_356 1 rfl ?_
        refine t3_iconst C dL_law_358 (v := nI 5) (by decide) ?_
        refine t3_irem C dL_law_359 (by decide) (v := nI (k % 5)) (pk_rem (by omega) (by omega) (by omega)) ?_
        refine t3_iconst C dL_law_360 (v := nI 3) (by decide) ?_
        refine t3n_icmp_ne C dL_law_361 (tgt := 394) (by decide) (by omega) (by omega) (fun c1 => ?_) (fun c1 => ?_)
        · have hxx : (mo && decide (3 < k + 1)) = (mo && decide (3 < k)) := by congr 1; exact decide_eq_decide.mpr (by omega)
          exact T3.c (by simp) (t394 Sm (by rw [hxx]; exact hQ))
        · skip
          obtain ⟨ot, T, c, wh, dr, la, an, hCm, hR, hd, hw⟩ := hQ
          refine T3.wf (fun _ hwm => ?_)
          rcases (show k = 3 ∨ 3 < k by omega) with hk3 | hk3
          · skip
            refine t3_aload_n C dL_law_364 8 rfl ?_
            refine t3_iload C dL_law_365 5 rfl ?_
            refine t3_callVM (As := [.int (nI n)]) (rest := []) hdj hll (hAW f) CM NN (c_X10_hear hM (S := Sm) hCm (k := n) (by omega) (by decide) (M.2.2.2.2.2.2.1 _ _ _ hR) (wf_fb hM hwm hCm)) mm_X10_hear wd_333 rfl (hM 0 (by decide)) sh_0 rfl (by decide) rfl (Nat.le_of_ble_eq_true rfl) dL_law_367 ?_
            intro v Sm2 hp
            show T3 G GM X Sc Sm2 ([(ah, .inl (tw_cy G 0, 64, .inl f))]) [(11, .int (nI i)), (10, .int (nI k)), (9, .int (nI (lfN n h))), (8, .ref ah), (7, .int (bI mo)), (6, .int (nI n)), (4, .int (nI z)), (3, .int (nI 1)), (2, .ref (tw_ad GM 0)), (1, .ref (tw_ad G 0)), (0, .ref (tw_sb G))] 370 [.int v]
            obtain ⟨hQ2, hv⟩ := OS_oth M (hmo hmt).1 (hmo hmt).2.1 (hmo hmt).2.2 hR hw hp
            refine T3.ti (y := nI 1) (hv.trans (congrArg nI (by rw [hmt, decide_eq_false (by omega)]; rfl))) ?_
            refine t3_istore (L' := [(12, .int (nI 1)), (11, .int (nI i)), (10, .int (nI k)), (9, .int (nI (lfN n h))), (8, .ref ah), (7, .int (bI mo)), (6, .int (nI n)), (4, .int (nI z)), (3, .int (nI 1)), (2, .ref (tw_ad GM 0)), (1, .ref (tw_ad G 0)), (0, .ref (tw_sb G))]) C NN dL_law_370 (i := 12) (by decide) rfl ?_
            refine t3_iload C dL_law_372 0 rfl ?_
            refine t3_iload C dL_law_374 2 rfl ?_
            refine t3_iconst C dL_law_376 (v := nI 3) (by decide) ?_
            refine t3n_icmp_ne C dL_law_377 (tgt := 384) (by decide) (by omega) (by omega) (fun c2 => ?_) (fun c2 => ?_)
            · exact absurd c2 (by omega)
            refine t3_iconst C dL_law_380 (v := nI 1) (by decide) ?_
            refine t3_goto C dL_law_381 (tgt := 385) (by decide) ?_
            refine t3n_icmp_ne C dL_law_385 (tgt := 392) (by decide) (by omega) (by omega) (fun c3 => ?_) (fun c3 => ?_)
            · exact absurd c3 (by decide)
            refine t3_iconst C dL_law_388 (v := nI 1) (by decide) ?_
            refine t3_goto C dL_law_389 (tgt := 393) (by decide) ?_
            refine t3_istore_n (L' := [(3, .int (nI 1)), (12, .int (nI 1)), (11, .int (nI i)), (10, .int (nI k)), (9, .int (nI (lfN n h))), (8, .ref ah), (7, .int (bI mo)), (6, .int (nI n)), (4, .int (nI z)), (2, .ref (tw_ad GM 0)), (1, .ref (tw_ad G 0)), (0, .ref (tw_sb G))]) C NN dL_law_393 rfl (by decide) rfl ?_
            exact T3.c (by simp) (t394 Sm2 (by rw [show (mo && decide (3 < k + 1)) = true by rw [hmt, decide_eq_true (by omega)]; rfl]; exact hQ2))
          · skip
            refine t3_aload_n C dL_law_364 8 rfl ?_
            refine t3_iload C dL_law_365 5 rfl ?_
            refine t3_callVM (As := [.int (nI n)]) (rest := []) hdj hll (hAW f) CM NN (c_X10_hear hM (S := Sm) hCm (k := n) (by omega) (by decide) (M.2.2.2.2.2.2.1 _ _ _ hR) (wf_fb hM hwm hCm)) mm_X10_hear wd_333 rfl (hM 0 (by decide)) sh_0 rfl (by decide) rfl (Nat.le_of_ble_eq_true rfl) dL_law_367 ?_
            intro v Sm2 hp
            show T3 G GM X Sc Sm2 ([(ah, .inl (tw_cy G 0, 64, .inl f))]) [(11, .int (nI i)), (10, .int (nI k)), (9, .int (nI (lfN n h))), (8, .ref ah), (7, .int (bI mo)), (6, .int (nI n)), (4, .int (nI z)), (3, .int (nI 1)), (2, .ref (tw_ad GM 0)), (1, .ref (tw_ad G 0)), (0, .ref (tw_sb G))] 370 [.int v]
            obtain ⟨hQ2, hv⟩ := OS_oth M (hmo hmt).1 (hmo hmt).2.1 (hmo hmt).2.2 hR hw hp
            refine T3.ti (y := nI 0) (hv.trans (congrArg nI (by rw [hmt, decide_eq_true (by omega)]; rfl))) ?_
            refine t3_istore (L' := [(12, .int (nI 0)), (11, .int (nI i)), (10, .int (nI k)), (9, .int (nI (lfN n h))), (8, .ref ah), (7, .int (bI mo)), (6, .int (nI n)), (4, .int (nI z)), (3, .int (nI 1)), (2, .ref (tw_ad GM 0)), (1, .ref (tw_ad G 0)), (0, .ref (tw_sb G))]) C NN dL_law_370 (i := 12) (by decide) rfl ?_
            refine t3_iload C dL_law_372 0 rfl ?_
            refine t3_iload C dL_law_374 2 rfl ?_
            refine t3_iconst C dL_law_376 (v := nI 3) (by decide) ?_
            refine t3n_icmp_ne C dL_law_377 (tgt := 384) (by decide) (by omega) (by omega) (fun c4 => ?_) (fun c4 => ?_)
            · skip
              refine t3_iconst C dL_law_384 (v := nI 0) (by decide) ?_
              refine t3n_icmp_ne C dL_law_385 (tgt := 392) (by decide) (by omega) (by omega) (fun c5 => ?_) (fun c5 => ?_)
              · exact absurd c5 (by decide)
              refine t3_iconst C dL_law_388 (v := nI 1) (by decide) ?_
              refine t3_goto C dL_law_389 (tgt := 393) (by decide) ?_
              refine t3_istore_n (L' := [(3, .int (nI 1)), (12, .int (nI 0)), (11, .int (nI i)), (10, .int (nI k)), (9, .int (nI (lfN n h))), (8, .ref ah), (7, .int (bI mo)), (6, .int (nI n)), (4, .int (nI z)), (2, .ref (tw_ad GM 0)), (1, .ref (tw_ad G 0)), (0, .ref (tw_sb G))]) C NN dL_law_393 rfl (by decide) rfl ?_
              exact T3.c (by simp) (t394 Sm2 (by rw [show (mo && decide (3 < k + 1)) = true by rw [hmt, decide_eq_true (by omega)]; rfl]; exact hQ2))
            · exact absurd c4 (by omega)
    refine t3_iload C dL_law_289 0 rfl ?_
    refine t3_sipush C dL_law_291 (v := nI 200) (by decide) ?_
    refine t3n_icmp_ge C dL_law_294 (tgt := 464) (by decide) (by omega) (by omega) (fun c1 => ?_) (fun c1 => ?_)
    · exact absurd c1 (by omega)
    refine t3_iload C dL_law_297 1 rfl ?_
    refine t3n_if_le C dL_law_299 (tgt := 464) (by decide) (by omega) (fun c299 => ?_) (fun c299 => ?_)
    · skip
      have ha := lfN_0.mp c299
      rw [lfN_0.mpr ha]
      exact T3.c (by simp) (t464 h f Sm _ ha hQ (fun g => by cases hmq : mo with | true => rfl | false => rw [hmq] at g; cases g))
    · skip
      refine t3_iload_n C dL_law_302 6 rfl ?_
      refine t3n_if_eq C dL_law_303 (tgt := 464) (by decide) (by omega) (fun c2 => ?_) (fun c2 => ?_)
      · exact absurd c2 (by decide)
      have hmul : cN G (52 + k % 20) % 97 * (k + 1) ≤ 96 * 200 := Nat.mul_le_mul (by omega) (by omega)
      refine t3_aload_n C dL_law_306 9 rfl ?_
      refine t3_bipush C dL_law_307 (v := nI 52) (by decide) ?_
      refine t3_iload C dL_law_309 0 rfl ?_
      refine t3_bipush C dL_law_311 (v := nI 20) (by decide) ?_
      refine t3_irem C dL_law_313 (by decide) (v := nI (k % 20)) (pk_rem (by omega) (by omega) (by omega)) ?_
      refine t3_iadd C dL_law_314 (v := nI (52 + (k % 20))) (nI_add _ _) ?_
      refine t3_callS (As := [.ref (tw_sb G), .int (nI (52 + (k % 20)))]) (rest := []) hdj hll (hAW f) C NN (c_L_cell hsn (S := Sc) (k := 52 + (k % 20)) (by omega)) mm_L_cell wd_106 rfl (by decide) rfl (Nat.le_of_ble_eq_true rfl) dL_law_315 ?_
      rintro _ _ ⟨rfl, rfl⟩
      show T3 G GM X Sc Sm ([(ah, .inl (tw_cy G 0, 64, .inl f))]) [(10, .int (nI k)), (9, .int (nI (lfN n h))), (8, .ref ah), (7, .int (bI mo)), (6, .int (nI n)), (4, .int (nI z)), (3, .int (nI 1)), (2, .ref (tw_ad GM 0)), (1, .ref (tw_ad G 0)), (0, .ref (tw_sb G))] 318 [.int (nI (cN G (52 + (k % 20))))]
      refine t3_bipush C dL_law_318 (v := nI 97) (by decide) ?_
      refine t3_irem C dL_law_320 (by decide) (v := nI ((cN G (52 + (k % 20))) % 97)) (pk_rem (by have := cN_lt G (52 + k % 20); omega) (by omega) (by omega)) ?_
      refine t3_iload C dL_law_321 0 rfl ?_
      refine t3_iconst C dL_law_323 (v := nI 1) (by decide) ?_
      refine t3_iadd C dL_law_324 (v := nI (k + 1)) (nI_add _ _) ?_
      refine t3_imul C dL_law_325 (v := nI (((cN G (52 + (k % 20))) % 97) * (k + 1))) (pk_mul _ _) ?_
      refine t3_iload C dL_law_326 4 rfl ?_
      refine t3_irem C dL_law_328 (nI_ne0 (by omega) (by omega)) (v := nI ((((cN G (52 + (k % 20))) % 97) * (k + 1)) % n)) (pk_rem (by omega) (by omega) (by omega)) ?_
      refine t3_istore (L' := [(11, .int (nI ((((cN G (52 + (k % 20))) % 97) * (k + 1)) % n))), (10, .int (nI k)), (9, .int (nI (lfN n h))), (8, .ref ah), (7, .int (bI mo)), (6, .int (nI n)), (4, .int (nI z)), (3, .int (nI 1)), (2, .ref (tw_ad GM 0)), (1, .ref (tw_ad G 0)), (0, .ref (tw_sb G))]) C NN dL_law_329 (i := 11) (by decide) rfl ?_
      refine t3_iload C dL_law_331 1 rfl ?_
      refine t3_sipush C dL_law_333 (v := nI 150) (by decide) ?_
      refine t3n_icmp_le C dL_law_336 (tgt := 347) (by decide) (by omega) (by omega) (fun c336 => ?_) (fun c336 => ?_)
      · skip
        refine t3_iload C dL_law_347 0 rfl ?_
        refine t3_istore (L' := [(11, .int (nI ((((cN G (52 + (k % 20))) % 97) * (k + 1)) % n))), (10, .int (nI k)), (9, .int (nI (lfN n h))), (8, .ref ah), (7, .int (bI mo)), (6, .int (nI n)), (4, .int (nI z)), (3, .int (nI 1)), (2, .ref (tw_ad GM 0)), (1, .ref (tw_ad G 0)), (0, .ref (tw_sb G))]) C NN dL_law_349 (i := 11) (by decide) rfl ?_
        exact t351 c299 _ (Nat.mod_lt _ (by omega)) (fun g => absurd g (by omega))
      · skip
        refine t3_iload C dL_law_339 1 rfl ?_
        refine t3_iload C dL_law_341 5 rfl ?_
        refine t3_irem C dL_law_343 (nI_ne0 (by omega) (by omega)) (v := nI (k % n)) (pk_rem (by omega) (by omega) (by omega)) ?_
        refine t3_goto C dL_law_344 (tgt := 349) (by decide) ?_
        refine t3_istore (L' := [(11, .int (nI (k % n))), (10, .int (nI k)), (9, .int (nI (lfN n h))), (8, .ref ah), (7, .int (bI mo)), (6, .int (nI n)), (4, .int (nI z)), (3, .int (nI 1)), (2, .ref (tw_ad GM 0)), (1, .ref (tw_ad G 0)), (0, .ref (tw_sb G))]) C NN dL_law_349 (i := 11) (by decide) rfl ?_
        exact t351 c299 _ (Nat.mod_lt _ (by omega)) (fun g => rfl)
