theorem mSm_s {q n i : Nat} {ps : List mP} (h : i < ps.length) : mSm q n (ps.take (i + 1)) = (mSm q n (ps.take i) || decide ((ps.getD i p0).1 = q ∧ (ps.getD i p0).2.length = n)) := by rw [take_s h p0, mSm, any_app1]; rfl
theorem mMe_s {q n i : Nat} {ps : List mP} (h : i < ps.length) : mMe q n (ps.take (i + 1)) = (mMe q n (ps.take i) || decide ((ps.getD i p0).1 < q + n ∧ q < (ps.getD i p0).1 + (ps.getD i p0).2.length)) := by rw [take_s h p0, mMe, any_app1]; rfl
theorem mSum_s {i : Nat} {ps : List mP} (h : i < ps.length) : mSum (ps.take (i + 1)) = mSum (ps.take i) + (ps.getD i p0).2.length := by rw [take_s h p0, mSum_app]
theorem fI_s {z t h : Nat} {L : List mE} (hh : h < L.length) : fI z t (L.drop h) = if mMt z t (L.getD h d0) = true then 0 else fI z t (L.drop (h + 1)) + 1 := by
  rw [List.drop_eq_getElem_cons hh]
  have e : L.getD h d0 = L[h] := by simp [List.getD_eq_getElem?_getD, List.getElem?_eq_getElem hh]
  rw [e]; rfl
theorem fI_e {z t h : Nat} {L : List mE} (hh : L.length ≤ h) : fI z t (L.drop h) = 0 := by rw [List.drop_of_length_le hh]; rfl
theorem set_eW {L : List mE} {h : Nat} {e : mE} (hw : ∀ e ∈ L, eW e) (he : eW e) : ∀ x ∈ L.set h e, eW x := by
  intro x hx
  rcases List.mem_or_eq_of_mem_set hx with h1 | rfl
  · exact hw x h1
  · exact he
theorem app_eW {L : List mE} {e : mE} (hw : ∀ e ∈ L, eW e) (he : eW e) : ∀ x ∈ L ++ [e], eW x := by
  intro x hx
  rcases List.mem_append.mp hx with h1 | h1
  · exact hw x h1
  · rw [List.mem_singleton.mp h1]; exact he
theorem eW_0 {z t ck : Nat} : eW ((z, t, ck, []) : mE) := ⟨by simp, fun i hi => absurd hi (by simp)⟩
theorem eW_add {e : mE} {q : Nat} {ys : List Nat} (h : eW e) (hn : e.2.2.2.length + 1 < 100) (hq : q + ys.length ≤ 600) : eW (addP e (q, ys)) := by
  have hl : (addP e (q, ys)).2.2.2.length = e.2.2.2.length + 1 := by show (e.2.2.2 ++ [(q, ys)]).length = _; rw [List.length_append]; rfl
  refine ⟨by rw [hl]; exact hn, fun i hi => ?_⟩
  rw [hl] at hi
  show ((e.2.2.2 ++ [(q, ys)]).getD i p0).1 + ((e.2.2.2 ++ [(q, ys)]).getD i p0).2.length ≤ 600
  by_cases h1 : i < e.2.2.2.length
  · rw [show (e.2.2.2 ++ [(q, ys)]).getD i p0 = e.2.2.2.getD i p0 by simp only [List.getD_eq_getElem?_getD, List.getElem?_append_left h1]]
    exact h.2 i h1
  · have h2 : i = e.2.2.2.length := by omega
    subst h2
    rw [show (e.2.2.2 ++ [(q, ys)]).getD e.2.2.2.length p0 = (q, ys) by simp only [List.getD_eq_getElem?_getD, List.getElem?_append_right (Nat.le_refl _), Nat.sub_self]; rfl]
    exact hq
set_option maxRecDepth 2000
theorem mLt_s {ck d : Nat} {hl : List mE} (h : d < hl.length) : mLt ck (hl.drop d) = if ck < (hl.getD d d0).2.2.1 + 60 then hl.getD d d0 :: mLt ck (hl.drop (d + 1)) else mLt ck (hl.drop (d + 1)) := by
  have e : hl.getD d d0 = hl[d] := by simp [List.getD_eq_getElem?_getD, List.getElem?_eq_getElem h]
  rw [List.drop_eq_getElem_cons h, e, mLt, List.filter_cons]
  by_cases hc : ck < hl[d].2.2.1 + 60
  · rw [if_pos hc, if_pos (decide_eq_true hc)]; rfl
  · rw [if_neg hc, if_neg (by rw [decide_eq_false hc]; decide)]; rfl
theorem mLt_len (ck : Nat) (l : List mE) : (mLt ck l).length ≤ l.length := List.length_filter_le _ _
theorem mLt_mem {ck : Nat} {l : List mE} {e : mE} (h : e ∈ mLt ck l) : e ∈ l := (List.mem_filter.mp h).1
theorem ld_mem {ck d : Nat} {hl : List mE} {e : mE} (h : e ∈ hl.take d ++ mLt ck (hl.drop d)) : e ∈ hl := by
  rcases List.mem_append.mp h with h1 | h1
  · exact List.mem_of_mem_take h1
  · exact List.mem_of_mem_drop (mLt_mem h1)
theorem ld_at {ck d : Nat} {hl : List mE} (h : d < hl.length) : (hl.take (d + 1) ++ mLt ck (hl.drop (d + 1))).getD d d0 = hl.getD d d0 := by
  simp only [List.getD_eq_getElem?_getD]
  rw [List.getElem?_append_left (by rw [List.length_take]; omega), List.getElem?_take, if_pos (by omega)]
theorem ld_keep {ck d : Nat} {hl : List mE} (h : d < hl.length) (hc : ck < (hl.getD d d0).2.2.1 + 60) : hl.take (d + 1) ++ mLt ck (hl.drop (d + 1)) = hl.take d ++ mLt ck (hl.drop d) := by
  rw [mLt_s h, if_pos hc, take_s h d0, List.append_assoc]; rfl
theorem ld_go {ck d : Nat} {hl : List mE} (h : d < hl.length) (hc : ¬ ck < (hl.getD d d0).2.2.1 + 60) : (hl.take (d + 1) ++ mLt ck (hl.drop (d + 1))).eraseIdx d = hl.take d ++ mLt ck (hl.drop d) := by
  rw [mLt_s h, if_neg hc, take_s h d0, List.append_assoc, List.eraseIdx_append_of_length_le (by rw [List.length_take]; omega), List.length_take, Nat.min_eq_left (by omega), Nat.sub_self]; rfl
theorem ld_len {ck d : Nat} {hl : List mE} (h : d ≤ hl.length) : (hl.take d ++ mLt ck (hl.drop d)).length ≤ hl.length ∧ d ≤ (hl.take d ++ mLt ck (hl.drop d)).length := by
  have := mLt_len ck (hl.drop d)
  rw [List.length_append, List.length_take]
  rw [List.length_drop] at this
  omega
theorem c_X11_hears {G : tw_G} (hM : tw_mG G) {S : tw_S} {K : kN} {tp ot : List Nat} {fr : List (List Nat)} {T : Nat → Int32} {hl : List mE} {ck wh dr la an : Nat} (hI : MI S K tp ot fr T hl ck wh dr la an) {z t q : Nat} {ys : List Nat} (hP : LA (tw_A S 122) ys) (h24 : tw_I S 114 24 = nI ys.length) (hw : ∀ e ∈ hl, eW e) (hnp : ∀ e ∈ hl, e.2.2.2.length + 1 < 100) (hzb : ∀ e ∈ hl, e.1 < 2 ^ 30 ∧ e.2.1 < 2 ^ 30) (htb : ∀ e ∈ hl, e.2.2.1 ≤ ck) (hck : ck < 2 ^ 30) (hz : z ≤ 600) (ht : t < 2 ^ 30) (hq6 : q + ys.length ≤ 600) : tw_M G yX11_hears cX11_hears 9 (some .int) 1 23 [.ref (tw_ad G 114), .int (nI z), .int (nI t), .int (nI q)] S ri_I (fun v S' => (PostA K tp ot fr T ck wh dr z t q ys (mLt ck hl) (la + (hl.length - (mLt ck hl).length)) an) v S') := by
  refine tw_M.of (L := [(0, .ref (tw_ad G 114)), (1, .int (nI z)), (2, .int (nI t)), (3, .int (nI q))]) (by decide) (Nat.le_of_ble_eq_true rfl) rfl (fun X C N Q => ?_)
  have C : tw_C G X cX11_hears RX11 := C
  have t392 : ∀ (S3 : tw_S) (L3 : List mE) (h la1 an1 : Nat) (_ : MI S3 K tp ot fr T L3 ck wh dr la1 an1) (_ : h < L3.length) (_ : ∀ e ∈ L3, eW e) (_ : mSum (L3.getD h d0).2.2.2 < z → (PostA K tp ot fr T ck wh dr z t q ys (mLt ck hl) (la + (hl.length - (mLt ck hl).length)) an) (nI 1) S3) (_ : ∀ {S9 : tw_S}, ¬ mSum (L3.getD h d0).2.2.2 < z → (∀ X : List Nat, X.length = z → CV (L3.getD h d0).2.2.2 X → MI S9 K tp X fr T (L3.eraseIdx h) ck (wh + 1) dr la1 an1) → (PostA K tp ot fr T ck wh dr z t q ys (mLt ck hl) (la + (hl.length - (mLt ck hl).length)) an) (nI 2) S9), TW G X S3 [(4, .int (nI h)), (0, .ref (tw_ad G 114)), (1, .int (nI z)), (2, .int (nI t)), (3, .int (nI q))] 392 [] := by
    intro S3 L3 h la1 an1 hI3 hh3 hw3 hp1 hp2
    have hE3 := mHp_eP hI3.2.2.2.2.2.1 hh3
    have hl3 := hI3.2.2.2.2.2.1.1
    have hW3 := hw3 _ (gD_mem hh3 d0)
    have hW3n := hW3.1
    have hSl : mSum (L3.getD h d0).2.2.2 ≤ 600 * (L3.getD h d0).2.2.2.length := mSum_le (fun i hi => by
      have h9 : ((L3.getD h d0).2.2.2.getD i p0).1 + ((L3.getD h d0).2.2.2.getD i p0).2.length ≤ 600 := hW3.2 i hi
      omega)
    have hSt : ∀ i, i < (L3.getD h d0).2.2.2.length → ((L3.getD h d0).2.2.2.getD i p0).2.length ≤ 600 := fun i hi => by
      have h9 : ((L3.getD h d0).2.2.2.getD i p0).1 + ((L3.getD h d0).2.2.2.getD i p0).2.length ≤ 600 := hW3.2 i hi
      omega
    have loop445 : ¬ mSum (L3.getD h d0).2.2.2 < z → ∀ (d : Nat) (k : Nat) (g : Nat → Int32) (_ : k + d = z) (hg : ∀ i, i < k → g i = tw_A S3 130 (600 * h + i)), TW G X (tw_wA S3 119 g) [(7, .int (nI k)), (4, .int (nI h)), (0, .ref (tw_ad G 114)), (1, .int (nI z)), (2, .int (nI t)), (3, .int (nI q))] 445 [] := by
      intro hsum d
      induction d with
      | zero =>
        intro k g hk hg
        refine tw_iload C dX11_hears_445 0 rfl ?_
        refine tw_iload_n C dX11_hears_447 3 rfl ?_
        refine tn_icmp_ge C dX11_hears_448 (tgt := 478) (by decide) (by omega) (by omega) (fun c1 => ?_) (fun c1 => ?_)
        · skip
          refine tw_aload_n C dX11_hears_478 2 rfl ?_
          refine tw_iload_n C dX11_hears_479 3 rfl ?_
          refine tw_putI (k := 6) C dX11_hears_480 fc_X11 sh_114 (hM 114 (by decide) (by decide)) rfl (by decide) rfl wd_270 rfl rfl ?_
          refine tw_aload_n C dX11_hears_483 2 rfl ?_
          refine tw_iload C dX11_hears_484 1 rfl ?_
          refine tw_callV (As := [.int (nI h)]) (rest := []) C N (c_X11_goes hM (S := tw_uI (tw_wA S3 119 g) 114 6 (nI z)) (m := L3.length) (h := h) hI3.2.2.2.2.2.1.2.1 hI3.2.2.2.2.2.1.1 hh3) mm_X11_goes wd_853 rfl (hM 114 (by decide) (by decide)) sh_114 rfl (by decide) rfl (Nat.le_of_ble_eq_true rfl) dX11_hears_486 ?_
          rintro _ _ ⟨S4, rfl, hf4, hr4⟩
          show TW G X (tw_uI S4 114 34 (nI (L3.length - 1))) [(7, .int (nI k)), (4, .int (nI h)), (0, .ref (tw_ad G 114)), (1, .int (nI z)), (2, .int (nI t)), (3, .int (nI q))] 489 []
          refine tw_aload_n C dX11_hears_489 2 rfl ?_
          refine tw_dup C dX11_hears_490 rfl ?_
          refine tw_getI (v := nI wh) (k := 42) C dX11_hears_491 fc_X11 sh_114 (hM 114 (by decide) (by decide)) rfl (by decide) wd_835 ((hf4.1 42 (by decide)).trans hI3.2.2.2.2.2.2.2.1) ?_
          refine tw_iconst C dX11_hears_494 (v := nI 1) (by decide) ?_
          refine tw_iadd C dX11_hears_495 (v := nI (wh + 1)) (nI_add _ _) ?_
          refine tw_putI (k := 42) C dX11_hears_496 fc_X11 sh_114 (hM 114 (by decide) (by decide)) rfl (by decide) rfl wd_835 rfl rfl ?_
          refine tw_iconst C dX11_hears_499 (v := nI 2) (by decide) ?_
          exact tw_ireturn C Q dX11_hears_500 rfl rfl rfl (hp2 hsum (fun X hX hC => by
            have hg2 : LA g X := fun i hi => by
              obtain ⟨k9, c1, c2, c3, c4⟩ := hC i hi
              have c5 : i - ((L3.getD h d0).2.2.2.getD k9 p0).1 < ((L3.getD h d0).2.2.2.getD k9 p0).2.length := by omega
              have e9 := ((mHp_eP hI3.2.2.2.2.2.1 hh3).2.2.2.2 k9 c1).2.2 (i - ((L3.getD h d0).2.2.2.getD k9 p0).1) c5
              rw [Nat.add_assoc, show ((L3.getD h d0).2.2.2.getD k9 (0, [])).1 + (i - ((L3.getD h d0).2.2.2.getD k9 p0).1) = i from Nat.add_sub_cancel' c2] at e9
              rw [hg i (by omega), ← c4]
              exact e9
            have h9 := goes_MI (S := tw_uI (tw_wA S3 119 g) 114 6 (nI z)) (by rw [← hX]; exact MI_ot hI3 hg2) hw3 hh3 hf4 hr4
            exact MI_wh h9))
        · exact absurd c1 (by omega)
      | succ d ih =>
        intro k g hk hg
        refine tw_iload C dX11_hears_445 0 rfl ?_
        refine tw_iload_n C dX11_hears_447 3 rfl ?_
        refine tn_icmp_ge C dX11_hears_448 (tgt := 478) (by decide) (by omega) (by omega) (fun c1 => ?_) (fun c1 => ?_)
        · exact absurd c1 (by omega)
        refine tw_aload_n C dX11_hears_451 2 rfl ?_
        refine tw_getR (q := 119) (k := 5) C dX11_hears_452 fc_X11 sh_114 (hM 114 (by decide) (by decide)) rfl (by decide) wd_115 ?_
        refine tw_iload C dX11_hears_455 0 rfl ?_
        refine tw_aload_n C dX11_hears_457 2 rfl ?_
        refine tw_getR (q := 130) (k := 38) C dX11_hears_458 fc_X11 sh_114 (hM 114 (by decide) (by decide)) rfl (by decide) wd_126 ?_
        refine tw_sipush C dX11_hears_461 (v := nI 600) (by decide) ?_
        refine tw_iload C dX11_hears_464 1 rfl ?_
        refine tw_imul C dX11_hears_466 (v := nI (600 * h)) (pk_mul _ _) ?_
        refine tw_iload C dX11_hears_467 0 rfl ?_
        refine tw_iadd C dX11_hears_469 (v := nI ((600 * h) + k)) (nI_add _ _) ?_
        refine tw_iald (v := tw_A S3 130 (600 * h + k)) C dX11_hears_470 sn_130 sa_130 (hM 130 (by decide) (by decide)) (by omega) (by decide) rfl ?_
        refine tw_iast C dX11_hears_471 sn_119 sa_119 (hM 119 (by decide) (by decide)) (by omega) (by decide) ?_
        refine tw_iinc (k := 0) (v := nI (k + 1)) (L' := [(7, .int (nI (k + 1))), (4, .int (nI h)), (0, .ref (tw_ad G 114)), (1, .int (nI z)), (2, .int (nI t)), (3, .int (nI q))]) C N dX11_hears_472 rfl (tn_inc1 _) (by decide) rfl ?_
        refine tw_goto C dX11_hears_475 (tgt := 445) (by decide) ?_
        rw [wA_uA]
        refine TW.c (L' := [(7, .int (nI (k + 1))), (4, .int (nI h)), (0, .ref (tw_ad G 114)), (1, .int (nI z)), (2, .int (nI t)), (3, .int (nI q))]) (by simp) ?_
        exact ih (k + 1) _ (by omega) (fun i hi => by
          by_cases hx : i = k
          · rw [hx]; simp [upd]
          · simp only [upd, hx, if_false]; exact hg i (by omega))
    have loop398 : ∀ (d : Nat) (i : Nat) (_ : i + d = (L3.getD h d0).2.2.2.length), TW G X S3 [(7, .int (nI i)), (6, .int (nI (mSum ((L3.getD h d0).2.2.2.take i)))), (4, .int (nI h)), (0, .ref (tw_ad G 114)), (1, .int (nI z)), (2, .int (nI t)), (3, .int (nI q))] 398 [] := by
      intro d
      induction d with
      | zero =>
        intro i hi
        refine tw_iload C dX11_hears_398 0 rfl ?_
        refine tw_aload_n C dX11_hears_400 3 rfl ?_
        refine tw_getR (q := 131) (k := 39) C dX11_hears_401 fc_X11 sh_114 (hM 114 (by decide) (by decide)) rfl (by decide) wd_127 ?_
        refine tw_iload C dX11_hears_404 2 rfl ?_
        refine tw_iald (v := nI ((L3.getD h d0).2.2.2.length)) C dX11_hears_406 sn_131 sa_131 (hM 131 (by decide) (by decide)) (by omega) (by decide) hE3.2.2.2.1 ?_
        refine tn_icmp_ge C dX11_hears_407 (tgt := 434) (by decide) (by omega) (by omega) (fun c1 => ?_) (fun c1 => ?_)
        · skip
          have hi9 : (L3.getD h d0).2.2.2.take i = (L3.getD h d0).2.2.2 := List.take_of_length_le (by omega)
          rw [hi9]
          show TW G X S3 [(7, .int (nI i)), (6, .int (nI (mSum (L3.getD h d0).2.2.2))), (4, .int (nI h)), (0, .ref (tw_ad G 114)), (1, .int (nI z)), (2, .int (nI t)), (3, .int (nI q))] 434 []
          refine tw_iload C dX11_hears_434 1 rfl ?_
          refine tw_iload_n C dX11_hears_436 4 rfl ?_
          refine tn_icmp_ge C dX11_hears_437 (tgt := 442) (by decide) (by omega) (by omega) (fun hsum => ?_) (fun hsum => ?_)
          · have hsum2 : ¬ mSum (L3.getD h d0).2.2.2 < z := by omega
            refine tw_iconst C dX11_hears_442 (v := nI 0) (by decide) ?_
            refine tw_istore (L' := [(7, .int (nI 0)), (6, .int (nI (mSum (L3.getD h d0).2.2.2))), (4, .int (nI h)), (0, .ref (tw_ad G 114)), (1, .int (nI z)), (2, .int (nI t)), (3, .int (nI q))]) C N dX11_hears_443 (i := 7) (by decide) rfl ?_
            refine TW.sS (wA_self S3 119).symm ?_
            refine TW.c (L' := [(7, .int (nI 0)), (4, .int (nI h)), (0, .ref (tw_ad G 114)), (1, .int (nI z)), (2, .int (nI t)), (3, .int (nI q))]) (by simp) ?_
            exact loop445 hsum2 z 0 _ (by omega) (fun i hi => absurd hi (by omega))
          · skip
            refine tw_iconst C dX11_hears_440 (v := nI 1) (by decide) ?_
            exact tw_ireturn C Q dX11_hears_441 rfl rfl rfl (hp1 (by omega))
        · exact absurd c1 (by omega)
      | succ d ih =>
        intro i hi
        refine tw_iload C dX11_hears_398 0 rfl ?_
        refine tw_aload_n C dX11_hears_400 3 rfl ?_
        refine tw_getR (q := 131) (k := 39) C dX11_hears_401 fc_X11 sh_114 (hM 114 (by decide) (by decide)) rfl (by decide) wd_127 ?_
        refine tw_iload C dX11_hears_404 2 rfl ?_
        refine tw_iald (v := nI ((L3.getD h d0).2.2.2.length)) C dX11_hears_406 sn_131 sa_131 (hM 131 (by decide) (by decide)) (by omega) (by decide) hE3.2.2.2.1 ?_
        refine tn_icmp_ge C dX11_hears_407 (tgt := 434) (by decide) (by omega) (by omega) (fun c1 => ?_) (fun c1 => ?_)
        · exact absurd c1 (by omega)
        refine tw_iload C dX11_hears_410 1 rfl ?_
        refine tw_aload_n C dX11_hears_412 3 rfl ?_
        refine tw_getR (q := 133) (k := 41) C dX11_hears_413 fc_X11 sh_114 (hM 114 (by decide) (by decide)) rfl (by decide) wd_129 ?_
        refine tw_bipush C dX11_hears_416 (v := nI 100) (by decide) ?_
        refine tw_iload C dX11_hears_418 2 rfl ?_
        refine tw_imul C dX11_hears_420 (v := nI (100 * h)) (pk_mul _ _) ?_
        refine tw_iload C dX11_hears_421 0 rfl ?_
        refine tw_iadd C dX11_hears_423 (v := nI ((100 * h) + i)) (nI_add _ _) ?_
        refine tw_iald (v := nI (((L3.getD h d0).2.2.2.getD i p0).2.length)) C dX11_hears_424 sn_133 sa_133 (hM 133 (by decide) (by decide)) (by omega) (by decide) (hE3.2.2.2.2 i (by omega)).2.1 ?_
        refine tw_iadd C dX11_hears_425 (v := nI ((mSum ((L3.getD h d0).2.2.2.take i)) + (((L3.getD h d0).2.2.2.getD i p0).2.length))) (nI_add _ _) ?_
        refine tw_istore (L' := [(6, .int (nI ((mSum ((L3.getD h d0).2.2.2.take i)) + (((L3.getD h d0).2.2.2.getD i p0).2.length)))), (7, .int (nI i)), (4, .int (nI h)), (0, .ref (tw_ad G 114)), (1, .int (nI z)), (2, .int (nI t)), (3, .int (nI q))]) C N dX11_hears_426 (i := 6) (by decide) rfl ?_
        refine tw_iinc (k := 1) (v := nI (i + 1)) (L' := [(7, .int (nI (i + 1))), (6, .int (nI ((mSum ((L3.getD h d0).2.2.2.take i)) + (((L3.getD h d0).2.2.2.getD i p0).2.length)))), (4, .int (nI h)), (0, .ref (tw_ad G 114)), (1, .int (nI z)), (2, .int (nI t)), (3, .int (nI q))]) C N dX11_hears_428 rfl (tn_inc1 _) (by decide) rfl ?_
        refine tw_goto C dX11_hears_431 (tgt := 398) (by decide) ?_
        refine TW.c (L' := [(7, .int (nI (i + 1))), (6, .int (nI (mSum ((L3.getD h d0).2.2.2.take (i + 1))))), (4, .int (nI h)), (0, .ref (tw_ad G 114)), (1, .int (nI z)), (2, .int (nI t)), (3, .int (nI q))]) (by rw [mSum_s (by omega)]; simp) ?_
        exact ih (i + 1) (by omega)
    refine tw_iconst C dX11_hears_392 (v := nI 0) (by decide) ?_
    refine tw_istore (L' := [(6, .int (nI 0)), (4, .int (nI h)), (0, .ref (tw_ad G 114)), (1, .int (nI z)), (2, .int (nI t)), (3, .int (nI q))]) C N dX11_hears_393 (i := 6) (by decide) rfl ?_
    refine tw_iconst C dX11_hears_395 (v := nI 0) (by decide) ?_
    refine tw_istore (L' := [(7, .int (nI 0)), (6, .int (nI 0)), (4, .int (nI h)), (0, .ref (tw_ad G 114)), (1, .int (nI z)), (2, .int (nI t)), (3, .int (nI q))]) C N dX11_hears_396 (i := 7) (by decide) rfl ?_
    refine TW.c (L' := [(7, .int (nI 0)), (6, .int (nI (mSum ((L3.getD h d0).2.2.2.take 0)))), (4, .int (nI h)), (0, .ref (tw_ad G 114)), (1, .int (nI z)), (2, .int (nI t)), (3, .int (nI q))]) (by rw [List.take_zero]; simp [mSum]) ?_
    exact loop398 (L3.getD h d0).2.2.2.length 0 (by omega)
  have tC : ∀ (S1 : tw_S) (L : List mE) (h la1 an1 : Nat) (_ : ∀ v S', PostC K tp ot fr T ck wh dr z t q ys L h la1 an1 v S' → (PostA K tp ot fr T ck wh dr z t q ys (mLt ck hl) (la + (hl.length - (mLt ck hl).length)) an) v S') (_ : MI S1 K tp ot fr T L ck wh dr la1 an1) (_ : LA (tw_A S1 122) ys) (_ : tw_I S1 114 24 = nI ys.length) (_ : h < L.length) (_ : ∀ e ∈ L, eW e) (_ : (L.getD h d0).2.2.2.length + 1 < 100) (_ : mMe q ys.length (L.getD h d0).2.2.2 = false), TW G X S1 [(4, .int (nI h)), (0, .ref (tw_ad G 114)), (1, .int (nI z)), (2, .int (nI t)), (3, .int (nI q))] 299 [] := by
    intro S1 L h la1 an1 hpost hI1 hP1 h24 hh hw hnp hdis
    have hE := mHp_eP hI1.2.2.2.2.2.1 hh
    have hl3 := hI1.2.2.2.2.2.1.1
    have loop354 : ∀ (d : Nat) (k : Nat) (f : Nat → Int32) (_ : k + d = ys.length) (f1 : ∀ j, j < k → f (600 * h + q + j) = nI (ys.getD j 0)) (f2 : ∀ x, x < 600 * h + q ∨ 600 * h + q + k ≤ x → f x = tw_A S1 130 x), TW G X (tw_wA (tw_uA (tw_uA (tw_uA S1 132 (100 * h + (L.getD h d0).2.2.2.length) (nI q)) 133 (100 * h + (L.getD h d0).2.2.2.length) (nI ys.length)) 131 h (nI ((L.getD h d0).2.2.2.length + 1))) 130 f) [(6, .int (nI k)), (4, .int (nI h)), (0, .ref (tw_ad G 114)), (1, .int (nI z)), (2, .int (nI t)), (3, .int (nI q))] 354 [] := by
      intro d
      induction d with
      | zero =>
        intro k f hk f1 f2
        refine tw_iload C dX11_hears_354 0 rfl ?_
        refine tw_aload_n C dX11_hears_356 2 rfl ?_
        refine tw_getI (v := nI ys.length) (k := 24) C dX11_hears_357 fc_X11 sh_114 (hM 114 (by decide) (by decide)) rfl (by decide) wd_637 h24 ?_
        refine tn_icmp_ge C dX11_hears_360 (tgt := 392) (by decide) (by omega) (by omega) (fun c1 => ?_) (fun c1 => ?_)
        · skip
          have hk9 : k = ys.length := by omega
          subst hk9
          have hI9 := MI_add hI1 hw hh hnp hq6 hdis f1 f2
          have hg9 : (L.set h (addP (L.getD h d0) (q, ys))).getD h d0 = addP (L.getD h d0) (q, ys) := getD_set_same hh _ _
          refine TW.c (L' := [(4, .int (nI h)), (0, .ref (tw_ad G 114)), (1, .int (nI z)), (2, .int (nI t)), (3, .int (nI q))]) (by simp) ?_
          exact t392 _ (L.set h (addP (L.getD h d0) (q, ys))) h la1 an1 hI9 (by rw [List.length_set]; exact hh) (set_eW hw (eW_add (hw _ (gD_mem hh d0)) hnp hq6)) (fun h7 => hpost _ _ (by rw [hg9] at h7; rw [PostC, if_pos (show mSum ((L.getD h d0).2.2.2 ++ [(q, ys)]) < z from h7)]; exact ⟨rfl, hI9⟩)) (fun h7 h8 => hpost _ _ (by rw [hg9] at h7 h8; rw [PostC, if_neg (show ¬ mSum ((L.getD h d0).2.2.2 ++ [(q, ys)]) < z from h7)]; exact ⟨rfl, h8⟩))
        · exact absurd c1 (by omega)
      | succ d ih =>
        intro k f hk f1 f2
        refine tw_iload C dX11_hears_354 0 rfl ?_
        refine tw_aload_n C dX11_hears_356 2 rfl ?_
        refine tw_getI (v := nI ys.length) (k := 24) C dX11_hears_357 fc_X11 sh_114 (hM 114 (by decide) (by decide)) rfl (by decide) wd_637 h24 ?_
        refine tn_icmp_ge C dX11_hears_360 (tgt := 392) (by decide) (by omega) (by omega) (fun c1 => ?_) (fun c1 => ?_)
        · exact absurd c1 (by omega)
        refine tw_aload_n C dX11_hears_363 2 rfl ?_
        refine tw_getR (q := 130) (k := 38) C dX11_hears_364 fc_X11 sh_114 (hM 114 (by decide) (by decide)) rfl (by decide) wd_126 ?_
        refine tw_sipush C dX11_hears_367 (v := nI 600) (by decide) ?_
        refine tw_iload C dX11_hears_370 1 rfl ?_
        refine tw_imul C dX11_hears_372 (v := nI (600 * h)) (pk_mul _ _) ?_
        refine tw_iload_n C dX11_hears_373 5 rfl ?_
        refine tw_iadd C dX11_hears_374 (v := nI ((600 * h) + q)) (nI_add _ _) ?_
        refine tw_iload C dX11_hears_375 0 rfl ?_
        refine tw_iadd C dX11_hears_377 (v := nI (((600 * h) + q) + k)) (nI_add _ _) ?_
        refine tw_aload_n C dX11_hears_378 2 rfl ?_
        refine tw_getR (q := 122) (k := 23) C dX11_hears_379 fc_X11 sh_114 (hM 114 (by decide) (by decide)) rfl (by decide) wd_118 ?_
        refine tw_iload C dX11_hears_382 0 rfl ?_
        refine tw_iald (v := nI (ys.getD k 0)) C dX11_hears_384 sn_122 sa_122 (hM 122 (by decide) (by decide)) (by omega) (by decide) (hP1 k (by omega)) ?_
        refine tw_iast C dX11_hears_385 sn_130 sa_130 (hM 130 (by decide) (by decide)) (by omega) (by decide) ?_
        refine tw_iinc (k := 0) (v := nI (k + 1)) (L' := [(6, .int (nI (k + 1))), (4, .int (nI h)), (0, .ref (tw_ad G 114)), (1, .int (nI z)), (2, .int (nI t)), (3, .int (nI q))]) C N dX11_hears_386 rfl (tn_inc1 _) (by decide) rfl ?_
        refine tw_goto C dX11_hears_389 (tgt := 354) (by decide) ?_
        rw [wA_uA]
        refine TW.c (L' := [(6, .int (nI (k + 1))), (4, .int (nI h)), (0, .ref (tw_ad G 114)), (1, .int (nI z)), (2, .int (nI t)), (3, .int (nI q))]) (by simp) ?_
        exact ih (k + 1) _ (by omega) (fun j hj => by
          by_cases hx : j = k
          · rw [hx]; simp [upd]
          · simp only [upd, show ¬ 600 * h + q + j = 600 * h + q + k by omega, if_false]; exact f1 j (by omega)) (fun x hx => by simp only [upd, show ¬ x = 600 * h + q + k by omega, if_false]; exact f2 x (by omega))
    refine tw_aload_n C dX11_hears_299 1 rfl ?_
    refine tw_getR (q := 132) (k := 40) C dX11_hears_300 fc_X11 sh_114 (hM 114 (by decide) (by decide)) rfl (by decide) wd_128 ?_
    refine tw_bipush C dX11_hears_303 (v := nI 100) (by decide) ?_
    refine tw_iload C dX11_hears_305 0 rfl ?_
    refine tw_imul C dX11_hears_307 (v := nI (100 * h)) (pk_mul _ _) ?_
    refine tw_aload_n C dX11_hears_308 1 rfl ?_
    refine tw_getR (q := 131) (k := 39) C dX11_hears_309 fc_X11 sh_114 (hM 114 (by decide) (by decide)) rfl (by decide) wd_127 ?_
    refine tw_iload C dX11_hears_312 0 rfl ?_
    refine tw_iald (v := nI ((L.getD h d0).2.2.2.length)) C dX11_hears_314 sn_131 sa_131 (hM 131 (by decide) (by decide)) (by omega) (by decide) hE.2.2.2.1 ?_
    refine tw_iadd C dX11_hears_315 (v := nI ((100 * h) + ((L.getD h d0).2.2.2.length))) (nI_add _ _) ?_
    refine tw_iload_n C dX11_hears_316 4 rfl ?_
    refine tw_iast C dX11_hears_317 sn_132 sa_132 (hM 132 (by decide) (by decide)) (by omega) (by decide) ?_
    refine tw_aload_n C dX11_hears_318 1 rfl ?_
    refine tw_getR (q := 133) (k := 41) C dX11_hears_319 fc_X11 sh_114 (hM 114 (by decide) (by decide)) rfl (by decide) wd_129 ?_
    refine tw_bipush C dX11_hears_322 (v := nI 100) (by decide) ?_
    refine tw_iload C dX11_hears_324 0 rfl ?_
    refine tw_imul C dX11_hears_326 (v := nI (100 * h)) (pk_mul _ _) ?_
    refine tw_aload_n C dX11_hears_327 1 rfl ?_
    refine tw_getR (q := 131) (k := 39) C dX11_hears_328 fc_X11 sh_114 (hM 114 (by decide) (by decide)) rfl (by decide) wd_127 ?_
    refine tw_iload C dX11_hears_331 0 rfl ?_
    refine tw_iald (v := nI ((L.getD h d0).2.2.2.length)) C dX11_hears_333 sn_131 sa_131 (hM 131 (by decide) (by decide)) (by omega) (by decide) hE.2.2.2.1 ?_
    refine tw_iadd C dX11_hears_334 (v := nI ((100 * h) + ((L.getD h d0).2.2.2.length))) (nI_add _ _) ?_
    refine tw_aload_n C dX11_hears_335 1 rfl ?_
    refine tw_getI (v := nI ys.length) (k := 24) C dX11_hears_336 fc_X11 sh_114 (hM 114 (by decide) (by decide)) rfl (by decide) wd_637 h24 ?_
    refine tw_iast C dX11_hears_339 sn_133 sa_133 (hM 133 (by decide) (by decide)) (by omega) (by decide) ?_
    refine tw_aload_n C dX11_hears_340 1 rfl ?_
    refine tw_getR (q := 131) (k := 39) C dX11_hears_341 fc_X11 sh_114 (hM 114 (by decide) (by decide)) rfl (by decide) wd_127 ?_
    refine tw_iload C dX11_hears_344 0 rfl ?_
    refine tw_dup2 C dX11_hears_346 rfl rfl ?_
    refine tw_iald (v := nI ((L.getD h d0).2.2.2.length)) C dX11_hears_347 sn_131 sa_131 (hM 131 (by decide) (by decide)) (by omega) (by decide) hE.2.2.2.1 ?_
    refine tw_iconst C dX11_hears_348 (v := nI 1) (by decide) ?_
    refine tw_iadd C dX11_hears_349 (v := nI (((L.getD h d0).2.2.2.length) + 1)) (nI_add _ _) ?_
    refine tw_iast C dX11_hears_350 sn_131 sa_131 (hM 131 (by decide) (by decide)) (by omega) (by decide) ?_
    refine tw_iconst C dX11_hears_351 (v := nI 0) (by decide) ?_
    refine tw_istore (L' := [(6, .int (nI 0)), (4, .int (nI h)), (0, .ref (tw_ad G 114)), (1, .int (nI z)), (2, .int (nI t)), (3, .int (nI q))]) C N dX11_hears_352 (i := 6) (by decide) rfl ?_
    refine TW.sS (wA_self _ 130).symm ?_
    refine TW.c (L' := [(6, .int (nI 0)), (4, .int (nI h)), (0, .ref (tw_ad G 114)), (1, .int (nI z)), (2, .int (nI t)), (3, .int (nI q))]) (by simp) ?_
    exact loop354 ys.length 0 _ (by omega) (fun j hj => absurd hj (by omega)) (fun x hx => rfl)
  have tB : ∀ (S1 : tw_S) (L : List mE) (h la1 an1 : Nat) (_ : ∀ v S', PostB K tp ot fr T ck wh dr z t q ys L h la1 an1 v S' → (PostA K tp ot fr T ck wh dr z t q ys (mLt ck hl) (la + (hl.length - (mLt ck hl).length)) an) v S') (_ : MI S1 K tp ot fr T L ck wh dr la1 an1) (_ : LA (tw_A S1 122) ys) (_ : tw_I S1 114 24 = nI ys.length) (_ : h < L.length) (_ : ∀ e ∈ L, eW e) (_ : (L.getD h d0).2.2.2.length + 1 < 100) (_ : (L.getD h d0).1 = z) (_ : (L.getD h d0).2.1 = t), TW G X S1 [(4, .int (nI h)), (0, .ref (tw_ad G 114)), (1, .int (nI z)), (2, .int (nI t)), (3, .int (nI q))] 159 [] := by
    intro S1 L h la1 an1 hpost hI1 hP1 h24 hh hw hnp hz1 ht1
    have hE := mHp_eP hI1.2.2.2.2.2.1 hh
    have hl3 := hI1.2.2.2.2.2.1.1
    have hW1 := hw _ (gD_mem hh d0)
    have hgb : ∀ i, i < (L.getD h d0).2.2.2.length → ((L.getD h d0).2.2.2.getD i p0).1 + ((L.getD h d0).2.2.2.getD i p0).2.length ≤ 600 := fun i hi => hW1.2 i hi
    have hgb2 : ∀ i, i < (L.getD h d0).2.2.2.length → ((L.getD h d0).2.2.2.getD i p0).1 < 2 ^ 31 ∧ ((L.getD h d0).2.2.2.getD i p0).2.length < 2 ^ 31 := fun i hi => by have := hgb i hi; omega
    have loop165 : ∀ (d : Nat) (i : Nat) (_ : i + d = (L.getD h d0).2.2.2.length) (hsm : mSm q ys.length ((L.getD h d0).2.2.2.take i) = false), TW G X S1 [(6, .int (nI i)), (5, .int (bI (mMe q ys.length ((L.getD h d0).2.2.2.take i)))), (4, .int (nI h)), (0, .ref (tw_ad G 114)), (1, .int (nI z)), (2, .int (nI t)), (3, .int (nI q))] 165 [] := by
      intro d
      induction d with
      | zero =>
        intro i hi hsm
        refine tw_iload C dX11_hears_165 0 rfl ?_
        refine tw_aload_n C dX11_hears_167 3 rfl ?_
        refine tw_getR (q := 131) (k := 39) C dX11_hears_168 fc_X11 sh_114 (hM 114 (by decide) (by decide)) rfl (by decide) wd_127 ?_
        refine tw_iload C dX11_hears_171 2 rfl ?_
        refine tw_iald (v := nI ((L.getD h d0).2.2.2.length)) C dX11_hears_173 sn_131 sa_131 (hM 131 (by decide) (by decide)) (by omega) (by decide) hE.2.2.2.1 ?_
        refine tn_icmp_ge C dX11_hears_174 (tgt := 265) (by decide) (by omega) (by omega) (fun c1 => ?_) (fun c1 => ?_)
        · skip
          have hi9 : (L.getD h d0).2.2.2.take i = (L.getD h d0).2.2.2 := List.take_of_length_le (by omega)
          rw [hi9] at hsm ⊢
          show TW G X S1 [(6, .int (nI i)), (5, .int (bI (mMe q ys.length (L.getD h d0).2.2.2))), (4, .int (nI h)), (0, .ref (tw_ad G 114)), (1, .int (nI z)), (2, .int (nI t)), (3, .int (nI q))] 265 []
          refine tw_iload C dX11_hears_265 1 rfl ?_
          refine tb_if_eq C dX11_hears_267 (tgt := 299) (by decide) (fun cm5 => ?_) (fun cm5 => ?_)
          · skip
            refine TW.c (L' := [(4, .int (nI h)), (0, .ref (tw_ad G 114)), (1, .int (nI z)), (2, .int (nI t)), (3, .int (nI q))]) (by simp) ?_
            exact tC S1 L h la1 an1 (fun v S' h9 => hpost v S' (by rw [PostB, if_neg (by rw [hsm]; decide), if_neg (by rw [cm5]; decide)]; exact h9)) hI1 hP1 h24 hh hw hnp cm5
          · skip
            refine tw_aload_n C dX11_hears_270 3 rfl ?_
            refine tw_getR (q := 131) (k := 39) C dX11_hears_271 fc_X11 sh_114 (hM 114 (by decide) (by decide)) rfl (by decide) wd_127 ?_
            refine tw_iload C dX11_hears_274 2 rfl ?_
            refine tw_iconst C dX11_hears_276 (v := nI 0) (by decide) ?_
            refine tw_iast C dX11_hears_277 sn_131 sa_131 (hM 131 (by decide) (by decide)) (by omega) (by decide) ?_
            refine tw_aload_n C dX11_hears_278 3 rfl ?_
            refine tw_getR (q := 129) (k := 37) C dX11_hears_279 fc_X11 sh_114 (hM 114 (by decide) (by decide)) rfl (by decide) wd_125 ?_
            refine tw_iload C dX11_hears_282 2 rfl ?_
            refine tw_aload_n C dX11_hears_284 3 rfl ?_
            refine tw_getI (v := nI ck) (k := 33) C dX11_hears_285 fc_X11 sh_114 (hM 114 (by decide) (by decide)) rfl (by decide) wd_850 hI1.2.2.2.2.2.2.1 ?_
            refine tw_iast C dX11_hears_288 sn_129 sa_129 (hM 129 (by decide) (by decide)) (by omega) (by decide) ?_
            refine tw_aload_n C dX11_hears_289 3 rfl ?_
            refine tw_dup C dX11_hears_290 rfl ?_
            refine tw_getI (v := nI an1) (k := 45) C dX11_hears_291 fc_X11 sh_114 (hM 114 (by decide) (by decide)) rfl (by decide) wd_852 hI1.2.2.2.2.2.2.2.2.2.2 ?_
            refine tw_iconst C dX11_hears_294 (v := nI 1) (by decide) ?_
            refine tw_iadd C dX11_hears_295 (v := nI (an1 + 1)) (nI_add _ _) ?_
            refine tw_putI (k := 45) C dX11_hears_296 fc_X11 sh_114 (hM 114 (by decide) (by decide)) rfl (by decide) rfl wd_852 rfl rfl ?_
            have hI9 := MI_an (x := an1 + 1) (MI_re (z := z) (t := t) hI1 hw hh hz1 ht1)
            have hg9 : (L.set h (z, t, ck, [])).getD h d0 = (z, t, ck, []) := getD_set_same hh _ _
            refine TW.c (L' := [(4, .int (nI h)), (0, .ref (tw_ad G 114)), (1, .int (nI z)), (2, .int (nI t)), (3, .int (nI q))]) (by simp) ?_
            exact tC _ (L.set h (z, t, ck, [])) h la1 (an1 + 1) (fun v S' h9 => hpost v S' (by rw [PostB, if_neg (by rw [hsm]; decide), if_pos cm5]; exact h9)) hI9 hP1 h24 (by rw [List.length_set]; exact hh) (set_eW hw eW_0) (by rw [hg9]; show 0 + 1 < 100; decide) (by rw [hg9]; rfl)
        · exact absurd c1 (by omega)
      | succ d ih =>
        intro i hi hsm
        have hb1 := hgb2 i (by omega)
        have hb2 := hgb i (by omega)
        refine tw_iload C dX11_hears_165 0 rfl ?_
        refine tw_aload_n C dX11_hears_167 3 rfl ?_
        refine tw_getR (q := 131) (k := 39) C dX11_hears_168 fc_X11 sh_114 (hM 114 (by decide) (by decide)) rfl (by decide) wd_127 ?_
        refine tw_iload C dX11_hears_171 2 rfl ?_
        refine tw_iald (v := nI ((L.getD h d0).2.2.2.length)) C dX11_hears_173 sn_131 sa_131 (hM 131 (by decide) (by decide)) (by omega) (by decide) hE.2.2.2.1 ?_
        refine tn_icmp_ge C dX11_hears_174 (tgt := 265) (by decide) (by omega) (by omega) (fun c1 => ?_) (fun c1 => ?_)
        · exact absurd c1 (by omega)
        refine tw_aload_n C dX11_hears_177 3 rfl ?_
        refine tw_getR (q := 132) (k := 40) C dX11_hears_178 fc_X11 sh_114 (hM 114 (by decide) (by decide)) rfl (by decide) wd_128 ?_
        refine tw_bipush C dX11_hears_181 (v := nI 100) (by decide) ?_
        refine tw_iload C dX11_hears_183 2 rfl ?_
        refine tw_imul C dX11_hears_185 (v := nI (100 * h)) (pk_mul _ _) ?_
        refine tw_iload C dX11_hears_186 0 rfl ?_
        refine tw_iadd C dX11_hears_188 (v := nI ((100 * h) + i)) (nI_add _ _) ?_
        refine tw_iald (v := nI (((L.getD h d0).2.2.2.getD i p0).1)) C dX11_hears_189 sn_132 sa_132 (hM 132 (by decide) (by decide)) (by omega) (by decide) (hE.2.2.2.2 i (by omega)).1 ?_
        refine tw_istore (L' := [(7, .int (nI (((L.getD h d0).2.2.2.getD i p0).1))), (6, .int (nI i)), (5, .int (bI (mMe q ys.length ((L.getD h d0).2.2.2.take i)))), (4, .int (nI h)), (0, .ref (tw_ad G 114)), (1, .int (nI z)), (2, .int (nI t)), (3, .int (nI q))]) C N dX11_hears_190 (i := 7) (by decide) rfl ?_
        refine tw_aload_n C dX11_hears_192 4 rfl ?_
        refine tw_getR (q := 133) (k := 41) C dX11_hears_193 fc_X11 sh_114 (hM 114 (by decide) (by decide)) rfl (by decide) wd_129 ?_
        refine tw_bipush C dX11_hears_196 (v := nI 100) (by decide) ?_
        refine tw_iload C dX11_hears_198 3 rfl ?_
        refine tw_imul C dX11_hears_200 (v := nI (100 * h)) (pk_mul _ _) ?_
        refine tw_iload C dX11_hears_201 1 rfl ?_
        refine tw_iadd C dX11_hears_203 (v := nI ((100 * h) + i)) (nI_add _ _) ?_
        refine tw_iald (v := nI (((L.getD h d0).2.2.2.getD i p0).2.length)) C dX11_hears_204 sn_133 sa_133 (hM 133 (by decide) (by decide)) (by omega) (by decide) (hE.2.2.2.2 i (by omega)).2.1 ?_
        refine tw_istore (L' := [(8, .int (nI (((L.getD h d0).2.2.2.getD i p0).2.length))), (7, .int (nI (((L.getD h d0).2.2.2.getD i p0).1))), (6, .int (nI i)), (5, .int (bI (mMe q ys.length ((L.getD h d0).2.2.2.take i)))), (4, .int (nI h)), (0, .ref (tw_ad G 114)), (1, .int (nI z)), (2, .int (nI t)), (3, .int (nI q))]) C N dX11_hears_205 (i := 8) (by decide) rfl ?_
        refine tw_iload C dX11_hears_207 1 rfl ?_
        refine tw_iload_n C dX11_hears_209 8 rfl ?_
        refine tn_icmp_ne C dX11_hears_210 (tgt := 227) (by decide) (by omega) (by omega) (fun c2 => ?_) (fun c2 => ?_)
        · skip
          refine tw_iload C dX11_hears_227 3 rfl ?_
          refine tb_if_ne C dX11_hears_229 (tgt := 252) (by decide) (fun cme => ?_) (fun cme => ?_)
          · skip
            refine tw_iconst C dX11_hears_252 (v := nI 1) (by decide) ?_
            refine tw_goto C dX11_hears_253 (tgt := 257) (by decide) ?_
            refine tw_istore (L' := [(5, .int (nI 1)), (8, .int (nI (((L.getD h d0).2.2.2.getD i p0).2.length))), (7, .int (nI (((L.getD h d0).2.2.2.getD i p0).1))), (6, .int (nI i)), (4, .int (nI h)), (0, .ref (tw_ad G 114)), (1, .int (nI z)), (2, .int (nI t)), (3, .int (nI q))]) C N dX11_hears_257 (i := 5) (by decide) rfl ?_
            refine tw_iinc (k := 3) (v := nI (i + 1)) (L' := [(6, .int (nI (i + 1))), (5, .int (nI 1)), (8, .int (nI (((L.getD h d0).2.2.2.getD i p0).2.length))), (7, .int (nI (((L.getD h d0).2.2.2.getD i p0).1))), (4, .int (nI h)), (0, .ref (tw_ad G 114)), (1, .int (nI z)), (2, .int (nI t)), (3, .int (nI q))]) C N dX11_hears_259 rfl (tn_inc1 _) (by decide) rfl ?_
            refine tw_goto C dX11_hears_262 (tgt := 165) (by decide) ?_
            have e1 : bI (mMe q ys.length ((L.getD h d0).2.2.2.take (i + 1))) = nI 1 := by rw [mMe_s (by omega)]; first | (rw [cme]; rfl) | (rw [show decide (((L.getD h d0).2.2.2.getD i p0).1 < q + ys.length ∧ q < ((L.getD h d0).2.2.2.getD i p0).1 + ((L.getD h d0).2.2.2.getD i p0).2.length) = true from decide_eq_true (by omega), Bool.or_true]; rfl)
            refine TW.c (L' := [(6, .int (nI (i + 1))), (5, .int (bI (mMe q ys.length ((L.getD h d0).2.2.2.take (i + 1))))), (4, .int (nI h)), (0, .ref (tw_ad G 114)), (1, .int (nI z)), (2, .int (nI t)), (3, .int (nI q))]) (by rw [e1]; simp) ?_
            exact ih (i + 1) (by omega) (by rw [mSm_s (by omega), hsm, show decide (((L.getD h d0).2.2.2.getD i p0).1 = q ∧ ((L.getD h d0).2.2.2.getD i p0).2.length = ys.length) = false from decide_eq_false (by omega)]; rfl)
          · skip
            refine tw_iload C dX11_hears_232 1 rfl ?_
            refine tw_iload_n C dX11_hears_234 8 rfl ?_
            refine tw_aload_n C dX11_hears_235 5 rfl ?_
            refine tw_getI (v := nI ys.length) (k := 24) C dX11_hears_236 fc_X11 sh_114 (hM 114 (by decide) (by decide)) rfl (by decide) wd_637 h24 ?_
            refine tw_iadd C dX11_hears_239 (v := nI (q + ys.length)) (nI_add _ _) ?_
            refine tn_icmp_ge C dX11_hears_240 (tgt := 256) (by decide) (by omega) (by omega) (fun c3 => ?_) (fun c3 => ?_)
            · skip
              refine tw_iconst C dX11_hears_256 (v := nI 0) (by decide) ?_
              refine tw_istore (L' := [(5, .int (nI 0)), (8, .int (nI (((L.getD h d0).2.2.2.getD i p0).2.length))), (7, .int (nI (((L.getD h d0).2.2.2.getD i p0).1))), (6, .int (nI i)), (4, .int (nI h)), (0, .ref (tw_ad G 114)), (1, .int (nI z)), (2, .int (nI t)), (3, .int (nI q))]) C N dX11_hears_257 (i := 5) (by decide) rfl ?_
              refine tw_iinc (k := 3) (v := nI (i + 1)) (L' := [(6, .int (nI (i + 1))), (5, .int (nI 0)), (8, .int (nI (((L.getD h d0).2.2.2.getD i p0).2.length))), (7, .int (nI (((L.getD h d0).2.2.2.getD i p0).1))), (4, .int (nI h)), (0, .ref (tw_ad G 114)), (1, .int (nI z)), (2, .int (nI t)), (3, .int (nI q))]) C N dX11_hears_259 rfl (tn_inc1 _) (by decide) rfl ?_
              refine tw_goto C dX11_hears_262 (tgt := 165) (by decide) ?_
              have e1 : bI (mMe q ys.length ((L.getD h d0).2.2.2.take (i + 1))) = nI 0 := by rw [mMe_s (by omega)]; rw [cme, show decide (((L.getD h d0).2.2.2.getD i p0).1 < q + ys.length ∧ q < ((L.getD h d0).2.2.2.getD i p0).1 + ((L.getD h d0).2.2.2.getD i p0).2.length) = false from decide_eq_false (by omega)]; rfl
              refine TW.c (L' := [(6, .int (nI (i + 1))), (5, .int (bI (mMe q ys.length ((L.getD h d0).2.2.2.take (i + 1))))), (4, .int (nI h)), (0, .ref (tw_ad G 114)), (1, .int (nI z)), (2, .int (nI t)), (3, .int (nI q))]) (by rw [e1]; simp) ?_
              exact ih (i + 1) (by omega) (by rw [mSm_s (by omega), hsm, show decide (((L.getD h d0).2.2.2.getD i p0).1 = q ∧ ((L.getD h d0).2.2.2.getD i p0).2.length = ys.length) = false from decide_eq_false (by omega)]; rfl)
            · skip
              refine tw_iload_n C dX11_hears_243 8 rfl ?_
              refine tw_iload C dX11_hears_244 1 rfl ?_
              refine tw_iload C dX11_hears_246 0 rfl ?_
              refine tw_iadd C dX11_hears_248 (v := nI ((((L.getD h d0).2.2.2.getD i p0).1) + (((L.getD h d0).2.2.2.getD i p0).2.length))) (nI_add _ _) ?_
              refine tn_icmp_ge C dX11_hears_249 (tgt := 256) (by decide) (by omega) (by omega) (fun c4 => ?_) (fun c4 => ?_)
              · skip
                refine tw_iconst C dX11_hears_256 (v := nI 0) (by decide) ?_
                refine tw_istore (L' := [(5, .int (nI 0)), (8, .int (nI (((L.getD h d0).2.2.2.getD i p0).2.length))), (7, .int (nI (((L.getD h d0).2.2.2.getD i p0).1))), (6, .int (nI i)), (4, .int (nI h)), (0, .ref (tw_ad G 114)), (1, .int (nI z)), (2, .int (nI t)), (3, .int (nI q))]) C N dX11_hears_257 (i := 5) (by decide) rfl ?_
                refine tw_iinc (k := 3) (v := nI (i + 1)) (L' := [(6, .int (nI (i + 1))), (5, .int (nI 0)), (8, .int (nI (((L.getD h d0).2.2.2.getD i p0).2.length))), (7, .int (nI (((L.getD h d0).2.2.2.getD i p0).1))), (4, .int (nI h)), (0, .ref (tw_ad G 114)), (1, .int (nI z)), (2, .int (nI t)), (3, .int (nI q))]) C N dX11_hears_259 rfl (tn_inc1 _) (by decide) rfl ?_
                refine tw_goto C dX11_hears_262 (tgt := 165) (by decide) ?_
                have e1 : bI (mMe q ys.length ((L.getD h d0).2.2.2.take (i + 1))) = nI 0 := by rw [mMe_s (by omega)]; rw [cme, show decide (((L.getD h d0).2.2.2.getD i p0).1 < q + ys.length ∧ q < ((L.getD h d0).2.2.2.getD i p0).1 + ((L.getD h d0).2.2.2.getD i p0).2.length) = false from decide_eq_false (by omega)]; rfl
                refine TW.c (L' := [(6, .int (nI (i + 1))), (5, .int (bI (mMe q ys.length ((L.getD h d0).2.2.2.take (i + 1))))), (4, .int (nI h)), (0, .ref (tw_ad G 114)), (1, .int (nI z)), (2, .int (nI t)), (3, .int (nI q))]) (by rw [e1]; simp) ?_
                exact ih (i + 1) (by omega) (by rw [mSm_s (by omega), hsm, show decide (((L.getD h d0).2.2.2.getD i p0).1 = q ∧ ((L.getD h d0).2.2.2.getD i p0).2.length = ys.length) = false from decide_eq_false (by omega)]; rfl)
              · skip
                refine tw_iconst C dX11_hears_252 (v := nI 1) (by decide) ?_
                refine tw_goto C dX11_hears_253 (tgt := 257) (by decide) ?_
                refine tw_istore (L' := [(5, .int (nI 1)), (8, .int (nI (((L.getD h d0).2.2.2.getD i p0).2.length))), (7, .int (nI (((L.getD h d0).2.2.2.getD i p0).1))), (6, .int (nI i)), (4, .int (nI h)), (0, .ref (tw_ad G 114)), (1, .int (nI z)), (2, .int (nI t)), (3, .int (nI q))]) C N dX11_hears_257 (i := 5) (by decide) rfl ?_
                refine tw_iinc (k := 3) (v := nI (i + 1)) (L' := [(6, .int (nI (i + 1))), (5, .int (nI 1)), (8, .int (nI (((L.getD h d0).2.2.2.getD i p0).2.length))), (7, .int (nI (((L.getD h d0).2.2.2.getD i p0).1))), (4, .int (nI h)), (0, .ref (tw_ad G 114)), (1, .int (nI z)), (2, .int (nI t)), (3, .int (nI q))]) C N dX11_hears_259 rfl (tn_inc1 _) (by decide) rfl ?_
                refine tw_goto C dX11_hears_262 (tgt := 165) (by decide) ?_
                have e1 : bI (mMe q ys.length ((L.getD h d0).2.2.2.take (i + 1))) = nI 1 := by rw [mMe_s (by omega)]; first | (rw [cme]; rfl) | (rw [show decide (((L.getD h d0).2.2.2.getD i p0).1 < q + ys.length ∧ q < ((L.getD h d0).2.2.2.getD i p0).1 + ((L.getD h d0).2.2.2.getD i p0).2.length) = true from decide_eq_true (by omega), Bool.or_true]; rfl)
                refine TW.c (L' := [(6, .int (nI (i + 1))), (5, .int (bI (mMe q ys.length ((L.getD h d0).2.2.2.take (i + 1))))), (4, .int (nI h)), (0, .ref (tw_ad G 114)), (1, .int (nI z)), (2, .int (nI t)), (3, .int (nI q))]) (by rw [e1]; simp) ?_
                exact ih (i + 1) (by omega) (by rw [mSm_s (by omega), hsm, show decide (((L.getD h d0).2.2.2.getD i p0).1 = q ∧ ((L.getD h d0).2.2.2.getD i p0).2.length = ys.length) = false from decide_eq_false (by omega)]; rfl)
        · skip
          refine tw_iload C dX11_hears_213 0 rfl ?_
          refine tw_aload_n C dX11_hears_215 5 rfl ?_
          refine tw_getI (v := nI ys.length) (k := 24) C dX11_hears_216 fc_X11 sh_114 (hM 114 (by decide) (by decide)) rfl (by decide) wd_637 h24 ?_
          refine tn_icmp_ne C dX11_hears_219 (tgt := 227) (by decide) (by omega) (by omega) (fun c5 => ?_) (fun c5 => ?_)
          · skip
            refine tw_iload C dX11_hears_227 3 rfl ?_
            refine tb_if_ne C dX11_hears_229 (tgt := 252) (by decide) (fun cme => ?_) (fun cme => ?_)
            · skip
              refine tw_iconst C dX11_hears_252 (v := nI 1) (by decide) ?_
              refine tw_goto C dX11_hears_253 (tgt := 257) (by decide) ?_
              refine tw_istore (L' := [(5, .int (nI 1)), (8, .int (nI (((L.getD h d0).2.2.2.getD i p0).2.length))), (7, .int (nI (((L.getD h d0).2.2.2.getD i p0).1))), (6, .int (nI i)), (4, .int (nI h)), (0, .ref (tw_ad G 114)), (1, .int (nI z)), (2, .int (nI t)), (3, .int (nI q))]) C N dX11_hears_257 (i := 5) (by decide) rfl ?_
              refine tw_iinc (k := 3) (v := nI (i + 1)) (L' := [(6, .int (nI (i + 1))), (5, .int (nI 1)), (8, .int (nI (((L.getD h d0).2.2.2.getD i p0).2.length))), (7, .int (nI (((L.getD h d0).2.2.2.getD i p0).1))), (4, .int (nI h)), (0, .ref (tw_ad G 114)), (1, .int (nI z)), (2, .int (nI t)), (3, .int (nI q))]) C N dX11_hears_259 rfl (tn_inc1 _) (by decide) rfl ?_
              refine tw_goto C dX11_hears_262 (tgt := 165) (by decide) ?_
              have e1 : bI (mMe q ys.length ((L.getD h d0).2.2.2.take (i + 1))) = nI 1 := by rw [mMe_s (by omega)]; first | (rw [cme]; rfl) | (rw [show decide (((L.getD h d0).2.2.2.getD i p0).1 < q + ys.length ∧ q < ((L.getD h d0).2.2.2.getD i p0).1 + ((L.getD h d0).2.2.2.getD i p0).2.length) = true from decide_eq_true (by omega), Bool.or_true]; rfl)
              refine TW.c (L' := [(6, .int (nI (i + 1))), (5, .int (bI (mMe q ys.length ((L.getD h d0).2.2.2.take (i + 1))))), (4, .int (nI h)), (0, .ref (tw_ad G 114)), (1, .int (nI z)), (2, .int (nI t)), (3, .int (nI q))]) (by rw [e1]; simp) ?_
              exact ih (i + 1) (by omega) (by rw [mSm_s (by omega), hsm, show decide (((L.getD h d0).2.2.2.getD i p0).1 = q ∧ ((L.getD h d0).2.2.2.getD i p0).2.length = ys.length) = false from decide_eq_false (by omega)]; rfl)
            · skip
              refine tw_iload C dX11_hears_232 1 rfl ?_
              refine tw_iload_n C dX11_hears_234 8 rfl ?_
              refine tw_aload_n C dX11_hears_235 5 rfl ?_
              refine tw_getI (v := nI ys.length) (k := 24) C dX11_hears_236 fc_X11 sh_114 (hM 114 (by decide) (by decide)) rfl (by decide) wd_637 h24 ?_
              refine tw_iadd C dX11_hears_239 (v := nI (q + ys.length)) (nI_add _ _) ?_
              refine tn_icmp_ge C dX11_hears_240 (tgt := 256) (by decide) (by omega) (by omega) (fun c6 => ?_) (fun c6 => ?_)
              · skip
                refine tw_iconst C dX11_hears_256 (v := nI 0) (by decide) ?_
                refine tw_istore (L' := [(5, .int (nI 0)), (8, .int (nI (((L.getD h d0).2.2.2.getD i p0).2.length))), (7, .int (nI (((L.getD h d0).2.2.2.getD i p0).1))), (6, .int (nI i)), (4, .int (nI h)), (0, .ref (tw_ad G 114)), (1, .int (nI z)), (2, .int (nI t)), (3, .int (nI q))]) C N dX11_hears_257 (i := 5) (by decide) rfl ?_
                refine tw_iinc (k := 3) (v := nI (i + 1)) (L' := [(6, .int (nI (i + 1))), (5, .int (nI 0)), (8, .int (nI (((L.getD h d0).2.2.2.getD i p0).2.length))), (7, .int (nI (((L.getD h d0).2.2.2.getD i p0).1))), (4, .int (nI h)), (0, .ref (tw_ad G 114)), (1, .int (nI z)), (2, .int (nI t)), (3, .int (nI q))]) C N dX11_hears_259 rfl (tn_inc1 _) (by decide) rfl ?_
                refine tw_goto C dX11_hears_262 (tgt := 165) (by decide) ?_
                have e1 : bI (mMe q ys.length ((L.getD h d0).2.2.2.take (i + 1))) = nI 0 := by rw [mMe_s (by omega)]; rw [cme, show decide (((L.getD h d0).2.2.2.getD i p0).1 < q + ys.length ∧ q < ((L.getD h d0).2.2.2.getD i p0).1 + ((L.getD h d0).2.2.2.getD i p0).2.length) = false from decide_eq_false (by omega)]; rfl
                refine TW.c (L' := [(6, .int (nI (i + 1))), (5, .int (bI (mMe q ys.length ((L.getD h d0).2.2.2.take (i + 1))))), (4, .int (nI h)), (0, .ref (tw_ad G 114)), (1, .int (nI z)), (2, .int (nI t)), (3, .int (nI q))]) (by rw [e1]; simp) ?_
                exact ih (i + 1) (by omega) (by rw [mSm_s (by omega), hsm, show decide (((L.getD h d0).2.2.2.getD i p0).1 = q ∧ ((L.getD h d0).2.2.2.getD i p0).2.length = ys.length) = false from decide_eq_false (by omega)]; rfl)
              · skip
                refine tw_iload_n C dX11_hears_243 8 rfl ?_
                refine tw_iload C dX11_hears_244 1 rfl ?_
                refine tw_iload C dX11_hears_246 0 rfl ?_
                refine tw_iadd C dX11_hears_248 (v := nI ((((L.getD h d0).2.2.2.getD i p0).1) + (((L.getD h d0).2.2.2.getD i p0).2.length))) (nI_add _ _) ?_
                refine tn_icmp_ge C dX11_hears_249 (tgt := 256) (by decide) (by omega) (by omega) (fun c7 => ?_) (fun c7 => ?_)
                · skip
                  refine tw_iconst C dX11_hears_256 (v := nI 0) (by decide) ?_
                  refine tw_istore (L' := [(5, .int (nI 0)), (8, .int (nI (((L.getD h d0).2.2.2.getD i p0).2.length))), (7, .int (nI (((L.getD h d0).2.2.2.getD i p0).1))), (6, .int (nI i)), (4, .int (nI h)), (0, .ref (tw_ad G 114)), (1, .int (nI z)), (2, .int (nI t)), (3, .int (nI q))]) C N dX11_hears_257 (i := 5) (by decide) rfl ?_
                  refine tw_iinc (k := 3) (v := nI (i + 1)) (L' := [(6, .int (nI (i + 1))), (5, .int (nI 0)), (8, .int (nI (((L.getD h d0).2.2.2.getD i p0).2.length))), (7, .int (nI (((L.getD h d0).2.2.2.getD i p0).1))), (4, .int (nI h)), (0, .ref (tw_ad G 114)), (1, .int (nI z)), (2, .int (nI t)), (3, .int (nI q))]) C N dX11_hears_259 rfl (tn_inc1 _) (by decide) rfl ?_
                  refine tw_goto C dX11_hears_262 (tgt := 165) (by decide) ?_
                  have e1 : bI (mMe q ys.length ((L.getD h d0).2.2.2.take (i + 1))) = nI 0 := by rw [mMe_s (by omega)]; rw [cme, show decide (((L.getD h d0).2.2.2.getD i p0).1 < q + ys.length ∧ q < ((L.getD h d0).2.2.2.getD i p0).1 + ((L.getD h d0).2.2.2.getD i p0).2.length) = false from decide_eq_false (by omega)]; rfl
                  refine TW.c (L' := [(6, .int (nI (i + 1))), (5, .int (bI (mMe q ys.length ((L.getD h d0).2.2.2.take (i + 1))))), (4, .int (nI h)), (0, .ref (tw_ad G 114)), (1, .int (nI z)), (2, .int (nI t)), (3, .int (nI q))]) (by rw [e1]; simp) ?_
                  exact ih (i + 1) (by omega) (by rw [mSm_s (by omega), hsm, show decide (((L.getD h d0).2.2.2.getD i p0).1 = q ∧ ((L.getD h d0).2.2.2.getD i p0).2.length = ys.length) = false from decide_eq_false (by omega)]; rfl)
                · skip
                  refine tw_iconst C dX11_hears_252 (v := nI 1) (by decide) ?_
                  refine tw_goto C dX11_hears_253 (tgt := 257) (by decide) ?_
                  refine tw_istore (L' := [(5, .int (nI 1)), (8, .int (nI (((L.getD h d0).2.2.2.getD i p0).2.length))), (7, .int (nI (((L.getD h d0).2.2.2.getD i p0).1))), (6, .int (nI i)), (4, .int (nI h)), (0, .ref (tw_ad G 114)), (1, .int (nI z)), (2, .int (nI t)), (3, .int (nI q))]) C N dX11_hears_257 (i := 5) (by decide) rfl ?_
                  refine tw_iinc (k := 3) (v := nI (i + 1)) (L' := [(6, .int (nI (i + 1))), (5, .int (nI 1)), (8, .int (nI (((L.getD h d0).2.2.2.getD i p0).2.length))), (7, .int (nI (((L.getD h d0).2.2.2.getD i p0).1))), (4, .int (nI h)), (0, .ref (tw_ad G 114)), (1, .int (nI z)), (2, .int (nI t)), (3, .int (nI q))]) C N dX11_hears_259 rfl (tn_inc1 _) (by decide) rfl ?_
                  refine tw_goto C dX11_hears_262 (tgt := 165) (by decide) ?_
                  have e1 : bI (mMe q ys.length ((L.getD h d0).2.2.2.take (i + 1))) = nI 1 := by rw [mMe_s (by omega)]; first | (rw [cme]; rfl) | (rw [show decide (((L.getD h d0).2.2.2.getD i p0).1 < q + ys.length ∧ q < ((L.getD h d0).2.2.2.getD i p0).1 + ((L.getD h d0).2.2.2.getD i p0).2.length) = true from decide_eq_true (by omega), Bool.or_true]; rfl)
                  refine TW.c (L' := [(6, .int (nI (i + 1))), (5, .int (bI (mMe q ys.length ((L.getD h d0).2.2.2.take (i + 1))))), (4, .int (nI h)), (0, .ref (tw_ad G 114)), (1, .int (nI z)), (2, .int (nI t)), (3, .int (nI q))]) (by rw [e1]; simp) ?_
                  exact ih (i + 1) (by omega) (by rw [mSm_s (by omega), hsm, show decide (((L.getD h d0).2.2.2.getD i p0).1 = q ∧ ((L.getD h d0).2.2.2.getD i p0).2.length = ys.length) = false from decide_eq_false (by omega)]; rfl)
          · skip
            refine tw_aload_n C dX11_hears_222 5 rfl ?_
            refine tw_callV (As := []) (rest := []) C N (c_X11_drops hM hI1) mm_X11_drops wd_840 rfl (hM 114 (by decide) (by decide)) sh_114 rfl (by decide) rfl (Nat.le_of_ble_eq_true rfl) dX11_hears_223 ?_
            rintro _ S5 ⟨rfl, hI5⟩
            show TW G X S5 [(8, .int (nI (((L.getD h d0).2.2.2.getD i p0).2.length))), (7, .int (nI (((L.getD h d0).2.2.2.getD i p0).1))), (6, .int (nI i)), (5, .int (bI (mMe q ys.length ((L.getD h d0).2.2.2.take i)))), (4, .int (nI h)), (0, .ref (tw_ad G 114)), (1, .int (nI z)), (2, .int (nI t)), (3, .int (nI q))] 226 [.int (nI 0)]
            exact tw_ireturn C Q dX11_hears_226 rfl rfl rfl (hpost _ _ (by rw [PostB, if_pos (show mSm q ys.length (L.getD h d0).2.2.2 = true from any_at (show i < (L.getD h d0).2.2.2.length by omega) p0 (decide_eq_true (by omega)))]; exact ⟨rfl, hI5⟩))
    refine tw_iconst C dX11_hears_159 (v := nI 0) (by decide) ?_
    refine tw_istore (L' := [(5, .int (nI 0)), (4, .int (nI h)), (0, .ref (tw_ad G 114)), (1, .int (nI z)), (2, .int (nI t)), (3, .int (nI q))]) C N dX11_hears_160 (i := 5) (by decide) rfl ?_
    refine tw_iconst C dX11_hears_162 (v := nI 0) (by decide) ?_
    refine tw_istore (L' := [(6, .int (nI 0)), (5, .int (nI 0)), (4, .int (nI h)), (0, .ref (tw_ad G 114)), (1, .int (nI z)), (2, .int (nI t)), (3, .int (nI q))]) C N dX11_hears_163 (i := 6) (by decide) rfl ?_
    refine TW.c (L' := [(6, .int (nI 0)), (5, .int (bI (mMe q ys.length ((L.getD h d0).2.2.2.take 0)))), (4, .int (nI h)), (0, .ref (tw_ad G 114)), (1, .int (nI z)), (2, .int (nI t)), (3, .int (nI q))]) (by rw [List.take_zero]; simp [mMe, bI]; rfl) ?_
    exact loop165 (L.getD h d0).2.2.2.length 0 (by omega) rfl
  have t52 : ∀ (S1 : tw_S) (L : List mE) (la1 an1 : Nat) (_ : ∀ v S', PostA K tp ot fr T ck wh dr z t q ys L la1 an1 v S' → (PostA K tp ot fr T ck wh dr z t q ys (mLt ck hl) (la + (hl.length - (mLt ck hl).length)) an) v S') (_ : MI S1 K tp ot fr T L ck wh dr la1 an1) (_ : LA (tw_A S1 122) ys) (_ : tw_I S1 114 24 = nI ys.length) (_ : ∀ e ∈ L, eW e) (_ : ∀ e ∈ L, e.2.2.2.length + 1 < 100) (_ : ∀ e ∈ L, e.1 < 2 ^ 30 ∧ e.2.1 < 2 ^ 30), TW G X S1 [(0, .ref (tw_ad G 114)), (1, .int (nI z)), (2, .int (nI t)), (3, .int (nI q))] 52 [] := by
    intro S1 L la1 an1 hpost hI1 hP1 h24 hw hnp hzb
    have hl3 := hI1.2.2.2.2.2.1.1
    have t92 : ∀ (h : Nat) (hc : (h < L.length ∧ (L.getD h d0).1 = z ∧ (L.getD h d0).2.1 = t ∧ fI z t L = h) ∨ (h = L.length ∧ fI z t L = h)), TW G X S1 [(4, .int (nI h)), (0, .ref (tw_ad G 114)), (1, .int (nI z)), (2, .int (nI t)), (3, .int (nI q))] 92 [] := by
      intro h hc
      refine tw_iload C dX11_hears_92 0 rfl ?_
      refine tw_aload_n C dX11_hears_94 1 rfl ?_
      refine tw_getI (v := nI L.length) (k := 34) C dX11_hears_95 fc_X11 sh_114 (hM 114 (by decide) (by decide)) rfl (by decide) wd_849 hI1.2.2.2.2.2.1.2.1 ?_
      refine tn_icmp_ne C dX11_hears_98 (tgt := 159) (by decide) (by omega) (by omega) (fun c98 => ?_) (fun c98 => ?_)
      · skip
        rcases hc with ⟨hh, hz1, ht1, hfe⟩ | ⟨hh, hfe⟩
        · refine TW.c (L' := [(4, .int (nI h)), (0, .ref (tw_ad G 114)), (1, .int (nI z)), (2, .int (nI t)), (3, .int (nI q))]) (by simp) ?_
          exact tB S1 L h la1 an1 (fun v S' h9 => hpost v S' (by rw [PostA, if_pos (by omega), hfe]; exact h9)) hI1 hP1 h24 hh hw (hnp _ (gD_mem hh d0)) hz1 ht1
        · exfalso; omega
      · skip
        refine tw_aload_n C dX11_hears_101 1 rfl ?_
        refine tw_getI (v := nI L.length) (k := 34) C dX11_hears_102 fc_X11 sh_114 (hM 114 (by decide) (by decide)) rfl (by decide) wd_849 hI1.2.2.2.2.2.1.2.1 ?_
        refine tw_iconst C dX11_hears_105 (v := nI 3) (by decide) ?_
        refine tn_icmp_ne C dX11_hears_106 (tgt := 114) (by decide) (by omega) (by omega) (fun c1 => ?_) (fun c1 => ?_)
        · skip
          have heq9 : L.length = h := by omega
          refine tw_aload_n C dX11_hears_114 1 rfl ?_
          refine tw_getR (q := 127) (k := 35) C dX11_hears_115 fc_X11 sh_114 (hM 114 (by decide) (by decide)) rfl (by decide) wd_123 ?_
          refine tw_iload C dX11_hears_118 0 rfl ?_
          refine tw_iload_n C dX11_hears_120 2 rfl ?_
          refine tw_iast C dX11_hears_121 sn_127 sa_127 (hM 127 (by decide) (by decide)) (by omega) (by decide) ?_
          refine tw_aload_n C dX11_hears_122 1 rfl ?_
          refine tw_getR (q := 128) (k := 36) C dX11_hears_123 fc_X11 sh_114 (hM 114 (by decide) (by decide)) rfl (by decide) wd_124 ?_
          refine tw_iload C dX11_hears_126 0 rfl ?_
          refine tw_iload_n C dX11_hears_128 3 rfl ?_
          refine tw_iast C dX11_hears_129 sn_128 sa_128 (hM 128 (by decide) (by decide)) (by omega) (by decide) ?_
          refine tw_aload_n C dX11_hears_130 1 rfl ?_
          refine tw_getR (q := 129) (k := 37) C dX11_hears_131 fc_X11 sh_114 (hM 114 (by decide) (by decide)) rfl (by decide) wd_125 ?_
          refine tw_iload C dX11_hears_134 0 rfl ?_
          refine tw_aload_n C dX11_hears_136 1 rfl ?_
          refine tw_getI (v := nI ck) (k := 33) C dX11_hears_137 fc_X11 sh_114 (hM 114 (by decide) (by decide)) rfl (by decide) wd_850 hI1.2.2.2.2.2.2.1 ?_
          refine tw_iast C dX11_hears_140 sn_129 sa_129 (hM 129 (by decide) (by decide)) (by omega) (by decide) ?_
          refine tw_aload_n C dX11_hears_141 1 rfl ?_
          refine tw_getR (q := 131) (k := 39) C dX11_hears_142 fc_X11 sh_114 (hM 114 (by decide) (by decide)) rfl (by decide) wd_127 ?_
          refine tw_iload C dX11_hears_145 0 rfl ?_
          refine tw_iconst C dX11_hears_147 (v := nI 0) (by decide) ?_
          refine tw_iast C dX11_hears_148 sn_131 sa_131 (hM 131 (by decide) (by decide)) (by omega) (by decide) ?_
          refine tw_aload_n C dX11_hears_149 1 rfl ?_
          refine tw_dup C dX11_hears_150 rfl ?_
          refine tw_getI (v := nI L.length) (k := 34) C dX11_hears_151 fc_X11 sh_114 (hM 114 (by decide) (by decide)) rfl (by decide) wd_849 hI1.2.2.2.2.2.1.2.1 ?_
          refine tw_iconst C dX11_hears_154 (v := nI 1) (by decide) ?_
          refine tw_iadd C dX11_hears_155 (v := nI (L.length + 1)) (nI_add _ _) ?_
          refine tw_putI (k := 34) C dX11_hears_156 fc_X11 sh_114 (hM 114 (by decide) (by decide)) rfl (by decide) rfl wd_849 rfl rfl ?_
          subst heq9
          have hI9 := MI_new (z := z) (t := t) hI1 hw (by omega)
          have hg9 : (L ++ [((z, t, ck, []) : mE)]).getD L.length d0 = (z, t, ck, []) := by simp [List.getD_eq_getElem?_getD]
          refine TW.c (L' := [(4, .int (nI L.length)), (0, .ref (tw_ad G 114)), (1, .int (nI z)), (2, .int (nI t)), (3, .int (nI q))]) (by simp) ?_
          exact tB _ (L ++ [(z, t, ck, [])]) L.length la1 an1 (fun v S' h9 => hpost v S' (by rw [PostA, if_neg (by omega), if_neg (by omega)]; exact h9)) hI9 hP1 h24 (by rw [List.length_append]; exact Nat.lt_succ_self _) (app_eW hw eW_0) (by rw [hg9]; show 0 + 1 < 100; decide) (by rw [hg9]) (by rw [hg9])
        · skip
          refine tw_aload_n C dX11_hears_109 1 rfl ?_
          refine tw_callV (As := []) (rest := []) C N (c_X11_drops hM hI1) mm_X11_drops wd_840 rfl (hM 114 (by decide) (by decide)) sh_114 rfl (by decide) rfl (Nat.le_of_ble_eq_true rfl) dX11_hears_110 ?_
          rintro _ S5 ⟨rfl, hI5⟩
          show TW G X S5 [(4, .int (nI h)), (0, .ref (tw_ad G 114)), (1, .int (nI z)), (2, .int (nI t)), (3, .int (nI q))] 113 [.int (nI 0)]
          exact tw_ireturn C Q dX11_hears_113 rfl rfl rfl (hpost _ _ (by rw [PostA, if_neg (by omega), if_pos (by omega)]; exact ⟨rfl, hI5⟩))
    have loop55 : ∀ (d : Nat) (h : Nat) (_ : h + d = L.length) (hfi : fI z t L = h + fI z t (L.drop h)), TW G X S1 [(4, .int (nI h)), (0, .ref (tw_ad G 114)), (1, .int (nI z)), (2, .int (nI t)), (3, .int (nI q))] 55 [] := by
      intro d
      induction d with
      | zero =>
        intro h hi hfi
        refine tw_iload C dX11_hears_55 0 rfl ?_
        refine tw_aload_n C dX11_hears_57 1 rfl ?_
        refine tw_getI (v := nI L.length) (k := 34) C dX11_hears_58 fc_X11 sh_114 (hM 114 (by decide) (by decide)) rfl (by decide) wd_849 hI1.2.2.2.2.2.1.2.1 ?_
        refine tn_icmp_ge C dX11_hears_61 (tgt := 92) (by decide) (by omega) (by omega) (fun c1 => ?_) (fun c1 => ?_)
        · skip
          have hfe : fI z t L = h := by rw [hfi, fI_e (by omega)]; rfl
          exact t92 h (Or.inr ⟨by omega, hfe⟩)
        · exact absurd c1 (by omega)
      | succ d ih =>
        intro h hi hfi
        have hE := mHp_eP hI1.2.2.2.2.2.1 (show h < L.length by omega)
        have hEb := hzb _ (gD_mem (show h < L.length by omega) d0)
        refine tw_iload C dX11_hears_55 0 rfl ?_
        refine tw_aload_n C dX11_hears_57 1 rfl ?_
        refine tw_getI (v := nI L.length) (k := 34) C dX11_hears_58 fc_X11 sh_114 (hM 114 (by decide) (by decide)) rfl (by decide) wd_849 hI1.2.2.2.2.2.1.2.1 ?_
        refine tn_icmp_ge C dX11_hears_61 (tgt := 92) (by decide) (by omega) (by omega) (fun c1 => ?_) (fun c1 => ?_)
        · exact absurd c1 (by omega)
        refine tw_aload_n C dX11_hears_64 1 rfl ?_
        refine tw_getR (q := 127) (k := 35) C dX11_hears_65 fc_X11 sh_114 (hM 114 (by decide) (by decide)) rfl (by decide) wd_123 ?_
        refine tw_iload C dX11_hears_68 0 rfl ?_
        refine tw_iald (v := nI ((L.getD h d0).1)) C dX11_hears_70 sn_127 sa_127 (hM 127 (by decide) (by decide)) (by omega) (by decide) hE.1 ?_
        refine tw_iload_n C dX11_hears_71 2 rfl ?_
        refine tn_icmp_ne C dX11_hears_72 (tgt := 86) (by decide) (by omega) (by omega) (fun c2 => ?_) (fun c2 => ?_)
        · skip
          refine tw_iinc (k := 0) (v := nI (h + 1)) (L' := [(4, .int (nI (h + 1))), (0, .ref (tw_ad G 114)), (1, .int (nI z)), (2, .int (nI t)), (3, .int (nI q))]) C N dX11_hears_86 rfl (tn_inc1 _) (by decide) rfl ?_
          refine tw_goto C dX11_hears_89 (tgt := 55) (by decide) ?_
          refine TW.c (L' := [(4, .int (nI (h + 1))), (0, .ref (tw_ad G 114)), (1, .int (nI z)), (2, .int (nI t)), (3, .int (nI q))]) (by simp) ?_
          exact ih (h + 1) (by omega) (by rw [hfi, fI_s (by omega), if_neg (by rw [mMt, decide_eq_true_eq]; omega)]; omega)
        · skip
          refine tw_aload_n C dX11_hears_75 1 rfl ?_
          refine tw_getR (q := 128) (k := 36) C dX11_hears_76 fc_X11 sh_114 (hM 114 (by decide) (by decide)) rfl (by decide) wd_124 ?_
          refine tw_iload C dX11_hears_79 0 rfl ?_
          refine tw_iald (v := nI ((L.getD h d0).2.1)) C dX11_hears_81 sn_128 sa_128 (hM 128 (by decide) (by decide)) (by omega) (by decide) hE.2.1 ?_
          refine tw_iload_n C dX11_hears_82 3 rfl ?_
          refine tn_icmp_eq C dX11_hears_83 (tgt := 92) (by decide) (by omega) (by omega) (fun c3 => ?_) (fun c3 => ?_)
          · skip
            have hm9 : mMt z t (L.getD h d0) = true := decide_eq_true ⟨by omega, by omega⟩
            have hfe : fI z t L = h := by rw [hfi, fI_s (by omega), if_pos hm9]; rfl
            exact t92 h (Or.inl ⟨by omega, by omega, by omega, hfe⟩)
          · skip
            refine tw_iinc (k := 0) (v := nI (h + 1)) (L' := [(4, .int (nI (h + 1))), (0, .ref (tw_ad G 114)), (1, .int (nI z)), (2, .int (nI t)), (3, .int (nI q))]) C N dX11_hears_86 rfl (tn_inc1 _) (by decide) rfl ?_
            refine tw_goto C dX11_hears_89 (tgt := 55) (by decide) ?_
            refine TW.c (L' := [(4, .int (nI (h + 1))), (0, .ref (tw_ad G 114)), (1, .int (nI z)), (2, .int (nI t)), (3, .int (nI q))]) (by simp) ?_
            exact ih (h + 1) (by omega) (by rw [hfi, fI_s (by omega), if_neg (by rw [mMt, decide_eq_true_eq]; omega)]; omega)
    refine tw_iconst C dX11_hears_52 (v := nI 0) (by decide) ?_
    refine tw_istore (L' := [(4, .int (nI 0)), (0, .ref (tw_ad G 114)), (1, .int (nI z)), (2, .int (nI t)), (3, .int (nI q))]) C N dX11_hears_53 (i := 4) (by decide) rfl ?_
    refine TW.c (L' := [(4, .int (nI 0)), (0, .ref (tw_ad G 114)), (1, .int (nI z)), (2, .int (nI t)), (3, .int (nI q))]) (by simp) ?_
    exact loop55 L.length 0 (by omega) (by rw [List.drop_zero]; omega)
  have loop8 : ∀ (d : Nat) (S1 : tw_S) (_ : d ≤ hl.length) (_ : MI S1 K tp ot fr T (hl.take d ++ mLt ck (hl.drop d)) ck wh dr (la + (hl.length - (hl.take d ++ mLt ck (hl.drop d)).length)) an) (_ : LA (tw_A S1 122) ys) (_ : tw_I S1 114 24 = nI ys.length), TW G X S1 [(4, .int (nI d - nI 1)), (0, .ref (tw_ad G 114)), (1, .int (nI z)), (2, .int (nI t)), (3, .int (nI q))] 8 [] := by
    intro d
    induction d with
    | zero =>
      intro S1 hd hI1 hP1 h24
      refine tw_iload C dX11_hears_8 0 rfl ?_
      refine tw_if_lt C dX11_hears_10 (tgt := 52) (by decide) (fun c10 => ?_) (fun c10 => ?_)
      · skip
        rw [List.take_zero, List.drop_zero, List.nil_append] at hI1
        refine TW.c (L' := [(0, .ref (tw_ad G 114)), (1, .int (nI z)), (2, .int (nI t)), (3, .int (nI q))]) (by simp) ?_
        exact t52 S1 (mLt ck hl) _ an (fun v S' h9 => h9) hI1 hP1 h24 (fun e he => hw e (mLt_mem he)) (fun e he => hnp e (mLt_mem he)) (fun e he => hzb e (mLt_mem he))
      · exact absurd (sub_neg (by decide) (by decide) (by decide)) c10
    | succ d ih =>
      intro S1 hd hI1 hP1 h24
      have hl3 := hI1.2.2.2.2.2.1.1
      have hdl := ld_len (ck := ck) hd
      have hE := mHp_eP hI1.2.2.2.2.2.1 (show d < _ by omega)
      rw [ld_at (by omega)] at hE
      have htm := htb _ (gD_mem (show d < hl.length by omega) d0)
      refine TW.c (L' := [(4, .int (nI d)), (0, .ref (tw_ad G 114)), (1, .int (nI z)), (2, .int (nI t)), (3, .int (nI q))]) (by rw [show nI (d + 1) - nI 1 = nI d from pk_sub (by omega)]; simp) ?_
      refine tw_iload C dX11_hears_8 0 rfl ?_
      refine tn_if_lt C dX11_hears_10 (tgt := 52) (by decide) (by omega) (fun c1 => ?_) (fun c1 => ?_)
      · exact absurd c1 id
      refine tw_aload_n C dX11_hears_13 1 rfl ?_
      refine tw_getI (v := nI ck) (k := 33) C dX11_hears_14 fc_X11 sh_114 (hM 114 (by decide) (by decide)) rfl (by decide) wd_850 hI1.2.2.2.2.2.2.1 ?_
      refine tw_aload_n C dX11_hears_17 1 rfl ?_
      refine tw_getR (q := 129) (k := 37) C dX11_hears_18 fc_X11 sh_114 (hM 114 (by decide) (by decide)) rfl (by decide) wd_125 ?_
      refine tw_iload C dX11_hears_21 0 rfl ?_
      refine tw_iald (v := nI ((hl.getD d d0).2.2.1)) C dX11_hears_23 sn_129 sa_129 (hM 129 (by decide) (by decide)) (by omega) (by decide) hE.2.2.1 ?_
      refine tw_isub C dX11_hears_24 (v := nI (ck - ((hl.getD d d0).2.2.1))) (pk_sub (by omega)) ?_
      refine tw_bipush C dX11_hears_25 (v := nI 60) (by decide) ?_
      refine tn_icmp_lt C dX11_hears_27 (tgt := 46) (by decide) (by omega) (by omega) (fun c2 => ?_) (fun c2 => ?_)
      · skip
        refine tw_iinc (k := 0) (v := nI d + (-1)) (L' := [(4, .int (nI d + (-1))), (0, .ref (tw_ad G 114)), (1, .int (nI z)), (2, .int (nI t)), (3, .int (nI q))]) C N dX11_hears_46 rfl rfl (by decide) rfl ?_
        refine tw_goto C dX11_hears_49 (tgt := 8) (by decide) ?_
        rw [ld_keep (by omega) (by omega)] at hI1
        refine TW.c (L' := [(4, .int (nI d - nI 1)), (0, .ref (tw_ad G 114)), (1, .int (nI z)), (2, .int (nI t)), (3, .int (nI q))]) (by rw [← nI_dec]; simp) ?_
        exact ih S1 (by omega) hI1 hP1 h24
      · skip
        refine tw_aload_n C dX11_hears_30 1 rfl ?_
        refine tw_iload C dX11_hears_31 0 rfl ?_
        refine tw_callV (As := [.int (nI d)]) (rest := []) C N (c_X11_goes hM (S := S1) (m := (hl.take (d + 1) ++ mLt ck (hl.drop (d + 1))).length) (h := d) hI1.2.2.2.2.2.1.2.1 hI1.2.2.2.2.2.1.1 (by omega)) mm_X11_goes wd_853 rfl (hM 114 (by decide) (by decide)) sh_114 rfl (by decide) rfl (Nat.le_of_ble_eq_true rfl) dX11_hears_33 ?_
        rintro _ _ ⟨S4, rfl, hf4, hr4⟩
        show TW G X (tw_uI S4 114 34 (nI ((hl.take (d + 1) ++ mLt ck (hl.drop (d + 1))).length - 1))) [(4, .int (nI d)), (0, .ref (tw_ad G 114)), (1, .int (nI z)), (2, .int (nI t)), (3, .int (nI q))] 36 []
        refine tw_aload_n C dX11_hears_36 1 rfl ?_
        refine tw_dup C dX11_hears_37 rfl ?_
        refine tw_getI (v := nI (la + (hl.length - (hl.take (d + 1) ++ mLt ck (hl.drop (d + 1))).length))) (k := 44) C dX11_hears_38 fc_X11 sh_114 (hM 114 (by decide) (by decide)) rfl (by decide) wd_851 ((hf4.1 44 (by decide)).trans hI1.2.2.2.2.2.2.2.2.2.1) ?_
        refine tw_iconst C dX11_hears_41 (v := nI 1) (by decide) ?_
        refine tw_iadd C dX11_hears_42 (v := nI ((la + (hl.length - (hl.take (d + 1) ++ mLt ck (hl.drop (d + 1))).length)) + 1)) (nI_add _ _) ?_
        refine tw_putI (k := 44) C dX11_hears_43 fc_X11 sh_114 (hM 114 (by decide) (by decide)) rfl (by decide) rfl wd_851 rfl rfl ?_
        refine tw_iinc (k := 0) (v := nI d + (-1)) (L' := [(4, .int (nI d + (-1))), (0, .ref (tw_ad G 114)), (1, .int (nI z)), (2, .int (nI t)), (3, .int (nI q))]) C N dX11_hears_46 rfl rfl (by decide) rfl ?_
        refine tw_goto C dX11_hears_49 (tgt := 8) (by decide) ?_
        have hI9 := goes_MI hI1 (fun e he => hw e (ld_mem he)) (show d < _ by omega) hf4 hr4
        rw [ld_go (by omega) (by omega)] at hI9
        have hle9 : (hl.take d ++ mLt ck (hl.drop d)).length + 1 = (hl.take (d + 1) ++ mLt ck (hl.drop (d + 1))).length := by
          have h7 := List.length_eraseIdx_of_lt (l := (hl.take (d + 1) ++ mLt ck (hl.drop (d + 1)))) (show d < _ by omega)
          rw [ld_go (by omega) (by omega)] at h7
          omega
        have hI8 := MI_la (x := la + (hl.length - (hl.take d ++ mLt ck (hl.drop d)).length)) hI9
        refine TW.c (L' := [(4, .int (nI d - nI 1)), (0, .ref (tw_ad G 114)), (1, .int (nI z)), (2, .int (nI t)), (3, .int (nI q))]) (by rw [← nI_dec]; simp) ?_
        exact ih _ (by omega) (by rw [show la + (hl.length - (hl.take (d + 1) ++ mLt ck (hl.drop (d + 1))).length) + 1 = la + (hl.length - (hl.take d ++ mLt ck (hl.drop d)).length) by omega]; exact hI8) (by rw [show tw_A (tw_uI (tw_uI S4 114 34 _) 114 44 _) 122 = tw_A S1 122 from hf4.2 122 (by decide)]; exact hP1) ((hf4.1 24 (by decide)).trans h24)
  refine tw_aload_n C dX11_hears_0 0 rfl ?_
  refine tw_getI (v := nI hl.length) (k := 34) C dX11_hears_1 fc_X11 sh_114 (hM 114 (by decide) (by decide)) rfl (by decide) wd_849 hI.2.2.2.2.2.1.2.1 ?_
  refine tw_iconst C dX11_hears_4 (v := nI 1) (by decide) ?_
  refine tw_isub C dX11_hears_5 (v := nI hl.length - nI 1) rfl ?_
  refine tw_istore (L' := [(4, .int (nI hl.length - nI 1)), (0, .ref (tw_ad G 114)), (1, .int (nI z)), (2, .int (nI t)), (3, .int (nI q))]) C N dX11_hears_6 (i := 4) (by decide) rfl ?_
  exact loop8 hl.length S (Nat.le_refl _) (by rw [List.take_length, List.drop_length, show mLt ck [] = [] from rfl, List.append_nil, Nat.sub_self, Nat.add_zero]; exact hI) hP h24
