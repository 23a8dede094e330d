/-! the law -/
theorem law_464 {G GM : tw_G} {X : tw_X} (hG : tw_cG G) (hM : tw_cG GM) (hdj : ∀ q, q ∈ tw_LA GM → q ∉ tw_LA G) (hll : tw_l GM = tw_l G) (C : tw_C G X cL_law RL) (CM : tw_C GM X cL_law RL) (NN : tw_N X 13 10 364) (hsn : tw_sn G ≤ 260) {wl : va_W} (hAW : AW G GM wl) {K : kN} {fr fo fq : List (List Nat)} {tpo tpq F : List Nat} {To Tm : Nat → Int32} {co cm : Nat → cH} {dro lao ano drm lam anm z n : Nat} {RV : (Nat → cH) → (Nat → Bool) → Bool → Prop} {FP : List Nat → Prop} {h0 h : Nat → Bool} {x mo : Bool} {Sc Sm : tw_S} (M : MD K fr z n RV FP) (hC : CI Sc K tpo F fo To co 0 1 dro lao ano) (hR : RV co h0 false) (hd0 : dro = 0) (ha0 : ∀ k, k < n → h0 k = true) (hCm : CI Sm K tpq F fq Tm cm 0 1 drm lam anm) (hRm : RV cm h x) (ha : ∀ k, k < n → h k = true) (hFz : F.length = z) (hz : z ≤ 200) (hx : x = true → mo = true) (kend : ∀ (Sc Sm : tw_S) (wl : va_W) (L : List (Nat × Value)), T3 G GM X Sc Sm wl L 609 [.int (nI 1)]) : T3 G GM X Sc Sm wl [(9, .int (nI 0)), (7, .int (bI mo)), (4, .int (nI z)), (3, .int (nI 1)), (2, .ref (tw_ad GM 0)), (1, .ref (tw_ad G 0))] 464 [] := by
  have ho := M.2.2.2.2.2.2.2 co h0 false hR ha0
  have hm := M.2.2.2.2.2.2.2 cm h x hRm ha
  have hx01 : (if x = true then 1 else 0) < 2 := by split <;> decide
  have t558 : T3 G GM X Sc Sm wl [(7, .int (bI mo)), (4, .int (nI z)), (3, .int (nI 1)), (2, .ref (tw_ad GM 0)), (1, .ref (tw_ad G 0))] 558 [] := by
    refine t3_iload_n C dL_law_558 2 rfl ?_
    refine t3n_if_eq C dL_law_559 (tgt := 608) (by decide) (by omega) (fun c1 => ?_) (fun c1 => ?_)
    · exact absurd c1 (by decide)
    refine t3_aload_n C dL_law_562 4 rfl ?_
    refine t3_iconst C dL_law_563 (v := nI 0) (by decide) ?_
    refine t3_callV (As := [.int (nI 0)]) (rest := []) hdj hll hAW C NN (c_X10_count hG (S := Sc) hC (i := 0) (by decide)) mm_X10_count wd_580 rfl (hG 0 (by decide)) sh_0 rfl (by decide) rfl (Nat.le_of_ble_eq_true rfl) dL_law_564 ?_
    rintro _ _ ⟨rfl, rfl⟩
    show T3 G GM X Sc Sm wl [(7, .int (bI mo)), (4, .int (nI z)), (3, .int (nI 1)), (2, .ref (tw_ad GM 0)), (1, .ref (tw_ad G 0))] 567 [.int ((cntA fo co 0 1 dro lao ano 0))]
    refine T3.ti (y := nI 0) (show cntA fo co 0 1 dro lao ano 0 = nI 0 from congrArg nI ho.1) ?_
    refine t3n_if_ne C dL_law_567 (tgt := 608) (by decide) (by omega) (fun c2 => ?_) (fun c2 => ?_)
    · exact absurd c2 (by decide)
    refine t3_aload_n C dL_law_570 3 rfl ?_
    refine t3_iconst C dL_law_571 (v := nI 0) (by decide) ?_
    refine t3_callVM (As := [.int (nI 0)]) (rest := []) hdj hll hAW CM NN (c_X10_count hM (S := Sm) hCm (i := 0) (by decide)) mm_X10_count wd_580 rfl (hM 0 (by decide)) sh_0 rfl (by decide) rfl (Nat.le_of_ble_eq_true rfl) dL_law_572 ?_
    rintro _ _ ⟨rfl, rfl⟩
    show T3 G GM X Sc Sm wl [(7, .int (bI mo)), (4, .int (nI z)), (3, .int (nI 1)), (2, .ref (tw_ad GM 0)), (1, .ref (tw_ad G 0))] 575 [.int ((cntA fq cm 0 1 drm lam anm 0))]
    refine T3.ti (y := nI (if x = true then 1 else 0)) (show cntA fq cm 0 1 drm lam anm 0 = nI (if x = true then 1 else 0) from congrArg nI hm.1) ?_
    refine t3_iload C dL_law_575 0 rfl ?_
    refine t3b_if_eq C dL_law_577 (tgt := 592) (by decide) (fun c577 => ?_) (fun c577 => ?_)
    · have hxf : x = false := by cases hx1 : x with | false => rfl | true => rw [hx hx1] at c577; cases c577
      refine t3_iconst C dL_law_592 (v := nI 0) (by decide) ?_
      refine t3n_icmp_ne C dL_law_593 (tgt := 608) (by decide) (by omega) (by omega) (fun c593 => ?_) (fun c593 => ?_)
      · exact absurd c593 (by first | omega | (cases x <;> simp_all))
      refine t3_aload_n C dL_law_596 4 rfl ?_
      refine t3_iconst C dL_law_597 (v := nI 5) (by decide) ?_
      refine t3_callV (As := [.int (nI 5)]) (rest := []) hdj hll hAW C NN (c_X10_count hG (S := Sc) hC (i := 5) (by decide)) mm_X10_count wd_580 rfl (hG 0 (by decide)) sh_0 rfl (by decide) rfl (Nat.le_of_ble_eq_true rfl) dL_law_598 ?_
      rintro _ _ ⟨rfl, rfl⟩
      show T3 G GM X Sc Sm wl [(7, .int (bI mo)), (4, .int (nI z)), (3, .int (nI 1)), (2, .ref (tw_ad GM 0)), (1, .ref (tw_ad G 0))] 601 [.int ((cntA fo co 0 1 dro lao ano 5))]
      refine T3.ti (y := nI 0) (show cntA fo co 0 1 dro lao ano 5 = nI 0 from congrArg nI hd0) ?_
      refine t3n_if_ne C dL_law_601 (tgt := 608) (by decide) (by omega) (fun c3 => ?_) (fun c3 => ?_)
      · exact absurd c3 (by decide)
      refine t3_iconst C dL_law_604 (v := nI 1) (by decide) ?_
      refine t3_goto C dL_law_605 (tgt := 609) (by decide) ?_
      exact kend _ _ _ _
    · skip
      refine t3_aload_n C dL_law_580 3 rfl ?_
      refine t3_iconst C dL_law_581 (v := nI 1) (by decide) ?_
      refine t3_callVM (As := [.int (nI 1)]) (rest := [.int (nI (if x = true then 1 else 0))]) hdj hll hAW CM NN (c_X10_count hM (S := Sm) hCm (i := 1) (by decide)) mm_X10_count wd_580 rfl (hM 0 (by decide)) sh_0 rfl (by decide) rfl (Nat.le_of_ble_eq_true rfl) dL_law_582 ?_
      rintro _ _ ⟨rfl, rfl⟩
      show T3 G GM X Sc Sm wl [(7, .int (bI mo)), (4, .int (nI z)), (3, .int (nI 1)), (2, .ref (tw_ad GM 0)), (1, .ref (tw_ad G 0))] 585 [.int ((cntA fq cm 0 1 drm lam anm 1)), .int (nI (if x = true then 1 else 0))]
      refine T3.ti (y := nI (if x = true then 1 else 0)) (show cntA fq cm 0 1 drm lam anm 1 = nI (if x = true then 1 else 0) from congrArg nI hm.2) ?_
      refine t3n_if_le C dL_law_585 (tgt := 592) (by decide) (by omega) (fun c585 => ?_) (fun c585 => ?_)
      · skip
        refine t3_iconst C dL_law_592 (v := nI 0) (by decide) ?_
        refine t3n_icmp_ne C dL_law_593 (tgt := 608) (by decide) (by omega) (by omega) (fun c593 => ?_) (fun c593 => ?_)
        · exact absurd c593 (by first | omega | (cases x <;> simp_all))
        refine t3_aload_n C dL_law_596 4 rfl ?_
        refine t3_iconst C dL_law_597 (v := nI 5) (by decide) ?_
        refine t3_callV (As := [.int (nI 5)]) (rest := []) hdj hll hAW C NN (c_X10_count hG (S := Sc) hC (i := 5) (by decide)) mm_X10_count wd_580 rfl (hG 0 (by decide)) sh_0 rfl (by decide) rfl (Nat.le_of_ble_eq_true rfl) dL_law_598 ?_
        rintro _ _ ⟨rfl, rfl⟩
        show T3 G GM X Sc Sm wl [(7, .int (bI mo)), (4, .int (nI z)), (3, .int (nI 1)), (2, .ref (tw_ad GM 0)), (1, .ref (tw_ad G 0))] 601 [.int ((cntA fo co 0 1 dro lao ano 5))]
        refine T3.ti (y := nI 0) (show cntA fo co 0 1 dro lao ano 5 = nI 0 from congrArg nI hd0) ?_
        refine t3n_if_ne C dL_law_601 (tgt := 608) (by decide) (by omega) (fun c4 => ?_) (fun c4 => ?_)
        · exact absurd c4 (by decide)
        refine t3_iconst C dL_law_604 (v := nI 1) (by decide) ?_
        refine t3_goto C dL_law_605 (tgt := 609) (by decide) ?_
        exact kend _ _ _ _
      · skip
        refine t3_iconst C dL_law_588 (v := nI 1) (by decide) ?_
        refine t3_goto C dL_law_589 (tgt := 593) (by decide) ?_
        refine t3n_icmp_ne C dL_law_593 (tgt := 608) (by decide) (by omega) (by omega) (fun c593 => ?_) (fun c593 => ?_)
        · exact absurd c593 (by first | omega | (cases x <;> simp_all))
        refine t3_aload_n C dL_law_596 4 rfl ?_
        refine t3_iconst C dL_law_597 (v := nI 5) (by decide) ?_
        refine t3_callV (As := [.int (nI 5)]) (rest := []) hdj hll hAW C NN (c_X10_count hG (S := Sc) hC (i := 5) (by decide)) mm_X10_count wd_580 rfl (hG 0 (by decide)) sh_0 rfl (by decide) rfl (Nat.le_of_ble_eq_true rfl) dL_law_598 ?_
        rintro _ _ ⟨rfl, rfl⟩
        show T3 G GM X Sc Sm wl [(7, .int (bI mo)), (4, .int (nI z)), (3, .int (nI 1)), (2, .ref (tw_ad GM 0)), (1, .ref (tw_ad G 0))] 601 [.int ((cntA fo co 0 1 dro lao ano 5))]
        refine T3.ti (y := nI 0) (show cntA fo co 0 1 dro lao ano 5 = nI 0 from congrArg nI hd0) ?_
        refine t3n_if_ne C dL_law_601 (tgt := 608) (by decide) (by omega) (fun c5 => ?_) (fun c5 => ?_)
        · exact absurd c5 (by decide)
        refine t3_iconst C dL_law_604 (v := nI 1) (by decide) ?_
        refine t3_goto C dL_law_605 (tgt := 609) (by decide) ?_
        exact kend _ _ _ _
  have loop : ∀ (d k : Nat), k + d = z → T3 G GM X Sc Sm wl [(10, .int (nI k)), (7, .int (bI mo)), (4, .int (nI z)), (3, .int (nI 1)), (2, .ref (tw_ad GM 0)), (1, .ref (tw_ad G 0))] 520 [] := by
    intro d
    induction d with
    | zero =>
      intro k hk
      refine t3_iload C dL_law_520 0 rfl ?_
      refine t3_iload C dL_law_522 2 rfl ?_
      refine t3n_icmp_ge C dL_law_524 (tgt := 558) (by decide) (by omega) (by omega) (fun c1 => ?_) (fun c1 => ?_)
      · skip
        exact T3.c (by simp) t558
      · exact absurd c1 (by omega)
    | succ d ih =>
      intro k hk
      refine t3_iload C dL_law_520 0 rfl ?_
      refine t3_iload C dL_law_522 2 rfl ?_
      refine t3n_icmp_ge C dL_law_524 (tgt := 558) (by decide) (by omega) (by omega) (fun c1 => ?_) (fun c1 => ?_)
      · exact absurd c1 (by omega)
      refine t3_iload_n C dL_law_527 3 rfl ?_
      refine t3n_if_eq C dL_law_528 (tgt := 558) (by decide) (by omega) (fun c2 => ?_) (fun c2 => ?_)
      · exact absurd c2 (by decide)
      refine t3_aload_n C dL_law_531 5 rfl ?_
      refine t3_iload C dL_law_532 0 rfl ?_
      refine t3_callV (As := [.int (nI k)]) (rest := []) hdj hll hAW C NN (c_X10_out hG (S := Sc) hC (i := k) (by omega)) mm_X10_out wd_568 rfl (hG 0 (by decide)) sh_0 rfl (by decide) rfl (Nat.le_of_ble_eq_true rfl) dL_law_534 ?_
      rintro _ _ ⟨rfl, rfl⟩
      show T3 G GM X Sc Sm wl [(10, .int (nI k)), (7, .int (bI mo)), (4, .int (nI z)), (3, .int (nI 1)), (2, .ref (tw_ad GM 0)), (1, .ref (tw_ad G 0))] 537 [.int ((bOL F k))]
      refine t3_aload_n C dL_law_537 4 rfl ?_
      refine t3_iload C dL_law_538 0 rfl ?_
      refine t3_callVM (As := [.int (nI k)]) (rest := [.int ((bOL F k))]) hdj hll hAW CM NN (c_X10_out hM (S := Sm) hCm (i := k) (by omega)) mm_X10_out wd_568 rfl (hM 0 (by decide)) sh_0 rfl (by decide) rfl (Nat.le_of_ble_eq_true rfl) dL_law_540 ?_
      rintro _ _ ⟨rfl, rfl⟩
      show T3 G GM X Sc Sm wl [(10, .int (nI k)), (7, .int (bI mo)), (4, .int (nI z)), (3, .int (nI 1)), (2, .ref (tw_ad GM 0)), (1, .ref (tw_ad G 0))] 543 [.int ((bOL F k)), .int ((bOL F k))]
      refine t3_icmp_ne C dL_law_543 (tgt := 550) (by decide) (fun c543 => ?_) (fun c543 => ?_)
      · exact absurd rfl c543
      refine t3_iconst C dL_law_546 (v := nI 1) (by decide) ?_
      refine t3_goto C dL_law_547 (tgt := 551) (by decide) ?_
      refine t3_istore_n (L' := [(3, .int (nI 1)), (10, .int (nI k)), (7, .int (bI mo)), (4, .int (nI z)), (2, .ref (tw_ad GM 0)), (1, .ref (tw_ad G 0))]) C NN dL_law_551 rfl (by decide) rfl ?_
      refine t3_iinc (k := 1) (v := nI (k + 1)) (L' := [(10, .int (nI (k + 1))), (3, .int (nI 1)), (7, .int (bI mo)), (4, .int (nI z)), (2, .ref (tw_ad GM 0)), (1, .ref (tw_ad G 0))]) C NN dL_law_552 rfl (tn_inc1 _) (by decide) rfl ?_
      refine t3_goto C dL_law_555 (tgt := 520) (by decide) ?_
      exact T3.c (by simp) (ih (k + 1) (by omega))
  refine t3_iload_n C dL_law_464 3 rfl ?_
  refine t3n_if_eq C dL_law_465 (tgt := 515) (by decide) (by omega) (fun c1 => ?_) (fun c1 => ?_)
  · exact absurd c1 (by decide)
  refine t3_iload C dL_law_468 0 rfl ?_
  refine t3n_if_ne C dL_law_470 (tgt := 515) (by decide) (by omega) (fun c2 => ?_) (fun c2 => ?_)
  · exact absurd c2 (by decide)
  refine t3_aload_n C dL_law_473 5 rfl ?_
  refine t3_iconst C dL_law_474 (v := (-1)) (by decide) ?_
  refine T3.ti (y := nI 4294967295) (by decide) ?_
  refine t3_callV (As := [.int (nI 4294967295)]) (rest := []) hdj hll hAW C NN (c_X10_out hG (S := Sc) hC (i := 4294967295) (by omega)) mm_X10_out wd_568 rfl (hG 0 (by decide)) sh_0 rfl (by decide) rfl (Nat.le_of_ble_eq_true rfl) dL_law_475 ?_
  rintro _ _ ⟨rfl, rfl⟩
  show T3 G GM X Sc Sm wl [(9, .int (nI 0)), (7, .int (bI mo)), (4, .int (nI z)), (3, .int (nI 1)), (2, .ref (tw_ad GM 0)), (1, .ref (tw_ad G 0))] 478 [.int ((bOL F 4294967295))]
  refine T3.ti (y := nI z) (show bOL F 4294967295 = nI z by rw [bOL, if_pos rfl, hFz]) ?_
  refine t3_iload C dL_law_478 2 rfl ?_
  refine t3n_icmp_ne C dL_law_480 (tgt := 515) (by decide) (by omega) (by omega) (fun c3 => ?_) (fun c3 => ?_)
  · exact absurd rfl c3
  refine t3_aload_n C dL_law_483 4 rfl ?_
  refine t3_iconst C dL_law_484 (v := (-1)) (by decide) ?_
  refine T3.ti (y := nI 4294967295) (by decide) ?_
  refine t3_callVM (As := [.int (nI 4294967295)]) (rest := []) hdj hll hAW CM NN (c_X10_out hM (S := Sm) hCm (i := 4294967295) (by omega)) mm_X10_out wd_568 rfl (hM 0 (by decide)) sh_0 rfl (by decide) rfl (Nat.le_of_ble_eq_true rfl) dL_law_485 ?_
  rintro _ _ ⟨rfl, rfl⟩
  show T3 G GM X Sc Sm wl [(9, .int (nI 0)), (7, .int (bI mo)), (4, .int (nI z)), (3, .int (nI 1)), (2, .ref (tw_ad GM 0)), (1, .ref (tw_ad G 0))] 488 [.int ((bOL F 4294967295))]
  refine T3.ti (y := nI z) (show bOL F 4294967295 = nI z by rw [bOL, if_pos rfl, hFz]) ?_
  refine t3_iload C dL_law_488 2 rfl ?_
  refine t3n_icmp_ne C dL_law_490 (tgt := 515) (by decide) (by omega) (by omega) (fun c4 => ?_) (fun c4 => ?_)
  · exact absurd rfl c4
  refine t3_aload_n C dL_law_493 5 rfl ?_
  refine t3_iconst C dL_law_494 (v := nI 4) (by decide) ?_
  refine t3_callV (As := [.int (nI 4)]) (rest := []) hdj hll hAW C NN (c_X10_count hG (S := Sc) hC (i := 4) (by decide)) mm_X10_count wd_580 rfl (hG 0 (by decide)) sh_0 rfl (by decide) rfl (Nat.le_of_ble_eq_true rfl) dL_law_495 ?_
  rintro _ _ ⟨rfl, rfl⟩
  show T3 G GM X Sc Sm wl [(9, .int (nI 0)), (7, .int (bI mo)), (4, .int (nI z)), (3, .int (nI 1)), (2, .ref (tw_ad GM 0)), (1, .ref (tw_ad G 0))] 498 [.int ((cntA fo co 0 1 dro lao ano 4))]
  refine T3.ti (y := nI 1) (show cntA fo co 0 1 dro lao ano 4 = nI 1 from rfl) ?_
  refine t3_iconst C dL_law_498 (v := nI 1) (by decide) ?_
  refine t3n_icmp_ne C dL_law_499 (tgt := 515) (by decide) (by omega) (by omega) (fun c5 => ?_) (fun c5 => ?_)
  · exact absurd c5 (by decide)
  refine t3_aload_n C dL_law_502 4 rfl ?_
  refine t3_iconst C dL_law_503 (v := nI 4) (by decide) ?_
  refine t3_callVM (As := [.int (nI 4)]) (rest := []) hdj hll hAW CM NN (c_X10_count hM (S := Sm) hCm (i := 4) (by decide)) mm_X10_count wd_580 rfl (hM 0 (by decide)) sh_0 rfl (by decide) rfl (Nat.le_of_ble_eq_true rfl) dL_law_504 ?_
  rintro _ _ ⟨rfl, rfl⟩
  show T3 G GM X Sc Sm wl [(9, .int (nI 0)), (7, .int (bI mo)), (4, .int (nI z)), (3, .int (nI 1)), (2, .ref (tw_ad GM 0)), (1, .ref (tw_ad G 0))] 507 [.int ((cntA fq cm 0 1 drm lam anm 4))]
  refine T3.ti (y := nI 1) (show cntA fq cm 0 1 drm lam anm 4 = nI 1 from rfl) ?_
  refine t3_iconst C dL_law_507 (v := nI 1) (by decide) ?_
  refine t3n_icmp_ne C dL_law_508 (tgt := 515) (by decide) (by omega) (by omega) (fun c6 => ?_) (fun c6 => ?_)
  · exact absurd c6 (by decide)
  refine t3_iconst C dL_law_511 (v := nI 1) (by decide) ?_
  refine t3_goto C dL_law_512 (tgt := 516) (by decide) ?_
  refine t3_istore_n (L' := [(3, .int (nI 1)), (9, .int (nI 0)), (7, .int (bI mo)), (4, .int (nI z)), (2, .ref (tw_ad GM 0)), (1, .ref (tw_ad G 0))]) C NN dL_law_516 rfl (by decide) rfl ?_
  refine t3_iconst C dL_law_517 (v := nI 0) (by decide) ?_
  refine t3_istore (L' := [(10, .int (nI 0)), (3, .int (nI 1)), (9, .int (nI 0)), (7, .int (bI mo)), (4, .int (nI z)), (2, .ref (tw_ad GM 0)), (1, .ref (tw_ad G 0))]) C NN dL_law_518 (i := 10) (by decide) rfl ?_
  refine T3.c (L' := [(10, .int (nI 0)), (7, .int (bI mo)), (4, .int (nI z)), (3, .int (nI 1)), (2, .ref (tw_ad GM 0)), (1, .ref (tw_ad G 0))]) (by simp) ?_
  exact loop z 0 (by omega)
