/-! the model squeezes its tape -/
theorem MU_uI {B : tw_S} {r k j : Nat} {f : Nat → Int32} {xs : List Nat} {x : Int32} (h : j ≠ k) : tw_uI (MU B r k f xs) 114 j x = MU (tw_uI B 114 j x) r k f xs := by
  simp only [MU, tw_uI, tw_wA, Prod.mk.injEq, true_and, and_true]
  funext q i
  by_cases h1 : q = 114 ∧ i = j
  · by_cases h2 : q = 114 ∧ i = k
    · omega
    · simp [h1, h2]; omega
  · by_cases h2 : q = 114 ∧ i = k <;> simp [h1, h2] <;> omega
theorem MI_sF {S S1 : tw_S} {K : kN} {tp ot : List Nat} {fr : List (List Nat)} {T : Nat → Int32} {hl : List mE} {ck wh dr la an : Nat} {x : Int32} (h : MI S K tp ot fr T hl ck wh dr la an) (g : sF (tw_uI S 114 8 x) S1) : MI S1 K tp ot fr T hl ck wh dr la an := by
  have hA : tw_A S1 = tw_A S := g.2.2.1
  have hi : ∀ k, k < 8 ∨ 17 < k → tw_I S1 114 k = tw_I S 114 k := fun k hk => by rw [g.2.2.2.2 114 k (by omega), tq_I_uI, if_neg (by omega)]
  unfold MI mK mR mF mL mHp mC at h ⊢
  rw [hA, hi 4 (by decide), hi 6 (by decide), hi 32 (by decide), hi 27 (by decide), hi 28 (by decide), hi 34 (by decide), hi 33 (by decide), hi 42 (by decide), hi 43 (by decide), hi 44 (by decide), hi 45 (by decide)]
  exact h
theorem nb4 (xs : List Nat) (a : Nat) : nb xs a 4 = ((xs.getD a 0 * 256 + xs.getD (a + 1) 0) * 256 + xs.getD (a + 2) 0) * 256 + xs.getD (a + 3) 0 := by show (((0 * 256 + xs.getD a 0) * 256 + xs.getD (a + 1) 0) * 256 + xs.getD (a + 2) 0) * 256 + xs.getD (a + 3) 0 = _; omega
theorem pkT_or {tp : List Nat} (hb : ∀ x ∈ tp, x < 256) : (tp.getD 0 0 % 16 * 16) ||| (tp.getD 1 0 / 16) = pkT tp := by
  have h0 := gD_lt hb 0
  have h1 := gD_lt hb 1
  have h2 := gD_lt hb 2
  have h3 := gD_lt hb 3
  rw [or16d _ (Nat.mod_lt _ (by decide)) _ (by omega), pkT, nb4]
  simp only [Nat.zero_add, Nat.reducePow]
  omega
theorem pkL_or {tp : List Nat} (hb : ∀ x ∈ tp, x < 256) : ((tp.getD 1 0 % 16 * 65536) ||| (tp.getD 2 0 * 256)) ||| tp.getD 3 0 = pkL tp := by
  have h0 := gD_lt hb 0
  have h1 := gD_lt hb 1
  have h2 := gD_lt hb 2
  have h3 := gD_lt hb 3
  have e1 := Nat.two_pow_add_eq_or_of_lt (i := 16) (b := tp.getD 2 0 * 256) (by simp only [Nat.reducePow]; omega) (tp.getD 1 0 % 16)
  have e2 := Nat.two_pow_add_eq_or_of_lt (i := 8) (b := tp.getD 3 0) h3 (tp.getD 1 0 % 16 * 256 + tp.getD 2 0)
  simp only [Nat.reducePow] at e1 e2
  rw [Nat.mul_comm _ 65536, ← e1, show 65536 * (tp.getD 1 0 % 16) + tp.getD 2 0 * 256 = 256 * (tp.getD 1 0 % 16 * 256 + tp.getD 2 0) by omega, ← e2, pkL, nb4]
  simp only [Nat.zero_add, Nat.reducePow]
  omega
theorem mB2_or : ∀ c, c < 2 → ∀ s, s < 8 → ∀ g, g < 16 → (((((c * 128) ||| (s / 4 * 64)) ||| (s % 4 * 16)) ||| (g / 8 * 8)) ||| (g / 4 % 2 * 4)) ||| (g % 4) = c * 128 + s * 16 + g := by decide +kernel
theorem be_md {x y n : Nat} : be (x * 256 ^ n + y) n = be y n := by
  unfold be
  refine List.map_congr_left (fun i hi => ?_)
  have hi := List.mem_range.mp hi
  have e : (256 : Nat) ^ n = 2 ^ (8 * (n - 1 - i)) * (256 * 2 ^ (8 * i)) := by
    rw [show (256 : Nat) = 2 ^ 8 from rfl, ← Nat.pow_mul, ← Nat.pow_add, ← Nat.pow_add]
    congr 1
    omega
  rw [e, show x * (2 ^ (8 * (n - 1 - i)) * (256 * 2 ^ (8 * i))) = 2 ^ (8 * (n - 1 - i)) * (256 * (x * 2 ^ (8 * i))) by ac_rfl, Nat.mul_add_div (Nat.two_pow_pos _), Nat.mul_add_mod]
theorem be_lo {xs : List Nat} (hb : ∀ x ∈ xs, x < 256) (a : Nat) {n : Nat} (hn : n ≤ 8) : be (nb xs a 8) n = cutD xs (a + (8 - n)) n := by
  have h := nb_ad xs a (8 - n) n
  rw [show 8 - n + n = 8 by omega] at h
  rw [h, be_md, be_nb hb]
theorem cutD_ad (xs : List Nat) (a m : Nat) : ∀ n, cutD xs a (m + n) = cutD xs a m ++ cutD xs (a + m) n
  | 0 => by simp [cutD]
  | n + 1 => by rw [← Nat.add_assoc, cutD_succ, cutD_ad xs a m n, cutD_succ, List.append_assoc, Nat.add_assoc]
theorem sqAd_lo {xs : List Nat} (hb : ∀ x ∈ xs, x < 256) (a : Nat) {m f : Nat} (hm : m < 8) (h : 0 < m % 4) : sqAd m f (nb xs (a + 8) 8) = cutD xs (a + lsS (m % 4)) (16 - lsS (m % 4)) := by
  have h0 : ∀ m, m < 8 → 0 < m % 4 → (tabN m ≠ 16 ∧ ¬ (m = 9 ∨ m = 10)) ∧ tabN m = 16 - lsS (m % 4) ∧ tabN m ≤ 8 ∧ lsS (m % 4) ≤ 16 := by decide
  obtain ⟨⟨h1, h2⟩, h3, h4, h5⟩ := h0 m hm h
  rw [sqAd, if_neg h1, if_neg h2, be_lo hb _ h4, ← h3]
  congr 1
  omega
theorem sqAd_16 {xs : List Nat} (hb : ∀ x ∈ xs, x < 256) (a : Nat) {m : Nat} (h : m = 0 ∨ m = 8) : sqAd m (nb xs a 8) (nb xs (a + 8) 8) = cutD xs a 16 := by
  have h0 : tabN m = 16 := by rcases h with rfl | rfl <;> rfl
  rw [sqAd, if_pos h0, be_nb hb, be_nb hb]
  exact (cutD_ad xs a 8 8).symm
theorem sqAd_4 {f l : Nat} : sqAd 4 f l = [] := rfl
theorem sqAd_11 {xs : List Nat} (hb : ∀ x ∈ xs, x < 256) {f : Nat} : sqAd 11 f (nb xs 32 8) = [xs.getD 39 0] := by
  show be (nb xs 32 8) 1 = _
  rw [be_lo hb _ (by decide)]
  rfl
theorem sqAd_m {xs : List Nat} (hb : ∀ x ∈ xs, x < 256) {m : Nat} (h : m = 9 ∨ m = 10) : sqAd m (nb xs 24 8) (nb xs 32 8) = xs.getD 25 0 :: cutD xs (if m = 9 then 35 else 37) (if m = 9 then 5 else 3) := by
  have e : nb xs 24 8 / 2 ^ 48 % 256 = xs.getD 25 0 := by
    have h1 := nb_ad xs 24 2 6
    have h2 := nb_lt hb 26 6
    have h3 := nb2 xs 24
    have h4 := gD_lt hb 25
    simp only [Nat.reducePow] at h1 h2 ⊢
    have h5 : nb xs (24 + 2) 6 = nb xs 26 6 := rfl
    have h6 : nb xs 24 (2 + 6) = nb xs 24 8 := rfl
    have h7 : xs.getD (24 + 1) 0 = xs.getD 25 0 := rfl
    omega
  rcases h with rfl | rfl
  · rw [sqAd, if_neg (by decide), if_pos (by decide), e]
    show _ :: be (nb xs 32 8) 5 = _
    rw [be_lo hb _ (by decide)]; rfl
  · rw [sqAd, if_neg (by decide), if_pos (by decide), e]
    show _ :: be (nb xs 32 8) 3 = _
    rw [be_lo hb _ (by decide)]; rfl
theorem sqTr_0 {t l : Nat} (ht : t < 256) : sqTr 0 t l = [(64 * (t % 4) + t / 4) % 256, l / 65536 % 256, l / 256 % 256, l % 256] := by
  have e : (64 * (t % 4) + t / 4) % 256 = sqTn t := by unfold sqTn; omega
  rw [e]
  show sqTn t :: [l / 2 ^ 16 % 256, l / 2 ^ 8 % 256, l / 2 ^ 0 % 256] = _
  simp only [Nat.reducePow, Nat.div_one]
theorem sqTr_1 {t l : Nat} (ht : t / 4 = 0) : sqTr 1 t l = [(64 * (t % 4) + l / 65536) % 256, l / 256 % 256, l % 256] := by
  have e1 : (sqTn t * 65536 + l) / 65536 % 256 = (64 * (t % 4) + l / 65536) % 256 := by unfold sqTn; omega
  have e2 : (sqTn t * 65536 + l) / 256 % 256 = l / 256 % 256 := by omega
  have e3 : (sqTn t * 65536 + l) % 256 = l % 256 := by omega
  show [(sqTn t * 65536 + l) / 2 ^ 16 % 256, (sqTn t * 65536 + l) / 2 ^ 8 % 256, (sqTn t * 65536 + l) / 2 ^ 0 % 256] = _
  simp only [Nat.reducePow, Nat.div_one, e1, e2, e3]
theorem sqTr_2 {t l : Nat} (ht : t < 256) : sqTr 2 t l = [(64 * (t % 4) + t / 4) % 256] := by
  have e : (64 * (t % 4) + t / 4) % 256 = sqTn t := by unfold sqTn; omega
  rw [e]; rfl
theorem sqB2_c {c x s g : Nat} (h : c = 0 ∧ x = 0 ∨ c = 1 ∧ x ≠ 0) : sqB2 x s g = c * 128 + s * 16 + g := by
  unfold sqB2
  rcases h with ⟨rfl, rfl⟩ | ⟨rfl, h2⟩
  · rw [if_pos rfl]
  · rw [if_neg h2]
theorem pkH_le {tp : List Nat} (h : 40 ≤ tp.length) : pkH tp ≤ tp.length ∧ 40 ≤ pkH tp ∧ pkH tp ≤ 48 := by
  unfold pkH
  split
  · rename_i hp
    exact ⟨((hasPB_iff tp).mp hp).2.1, by decide, by decide⟩
  · exact ⟨h, by decide, by decide⟩
theorem c_X11_squeezeTape {G : tw_G} (hM : tw_mG G) {S : tw_S} {K : kN} {tp ot : List Nat} {fr : List (List Nat)} {T : Nat → Int32} {hl : List mE} {ck wh dr la an : Nat} (hI : MI S K tp ot fr T hl ck wh dr la an) (htb : ∀ x ∈ tp, x < 256) (htl : tp.length ≤ 640) (hpk : isPkB tp = true) : tw_M G yX11_squeezeTape cX11_squeezeTape 10 none 3 68 [.ref (tw_ad G 114)] S ri_V (fun _ S' => MI S' K tp ot fr T hl ck wh dr la an ∧ LA (tw_A S' 120) (sqAll K tp) ∧ tw_I S' 114 8 = nI (sqAll K tp).length ∧ tw_I S' 114 9 = nI (sqHd K tp).length ∧ tw_I S' 114 10 = nI (pkH tp)) := by
  refine tw_M.of (L := [(0, .ref (tw_ad G 114))]) (by decide) (Nat.le_of_ble_eq_true rfl) rfl (fun X C N Q => ?_)
  have C : tw_C G X cX11_squeezeTape RX11 := C
  have h40 := ((isPkB_iff tp).mp hpk).1
  have hp48 := pkH_le h40
  have hT4 : pkT tp < 256 := Nat.mod_lt _ (by decide)
  have hL4 : pkL tp < 1048576 := Nat.mod_lt _ (by decide)
  have b0 := gD_lt htb 0
  have b1 := gD_lt htb 1
  have b2 := gD_lt htb 2
  have b3 := gD_lt htb 3
  have t197 : ∀ (S1 : tw_S) (_ : sF (tw_uI S 114 8 (nI 0)) S1) (_ : tw_I S1 114 11 = nI ((mSrc K (nb tp 8 8) (nb tp 16 8)) / 4)) (_ : tw_I S1 114 12 = nI ((mSrc K (nb tp 8 8) (nb tp 16 8)) % 4)) (_ : tw_I S1 114 13 = nI (ctxN K (mSrc K (nb tp 8 8) (nb tp 16 8)) (nb tp 8 8))) (_ : tw_I S1 114 14 = nI ((mGoal K (nb tp 24 8) (nb tp 32 8)) / 8)) (_ : tw_I S1 114 15 = nI ((mGoal K (nb tp 24 8) (nb tp 32 8)) / 4 % 2)) (_ : tw_I S1 114 16 = nI ((mGoal K (nb tp 24 8) (nb tp 32 8)) % 4)) (_ : tw_I S1 114 17 = nI (ctxN K (mGoal K (nb tp 24 8) (nb tp 32 8)) (nb tp 24 8))), TW G X S1 [(1, .int (nI (pkT tp))), (2, .int (nI (pkL tp))), (3, .int (nI (sqTF (pkT tp) (pkL tp)))), (5, .int (bI (hasPB tp))), (6, .int (nI (sqHL (tp.getD 7 0)))), (0, .ref (tw_ad G 114))] 197 [] := by
    intro S1 g1 h11 h12 h13 h14 h15 h16 h17
    have hI1 := MI_sF hI g1
    have hT1 := hI1.2.1.1
    have h8 : tw_I S1 114 8 = nI ([] : List Nat).length := g1.2.2.2.2 114 8 (by omega)
    have k1 := ctxN_lt K (mSrc K (nb tp 8 8) (nb tp 16 8)) (nb tp 8 8)
    have k2 := ctxN_lt K (mGoal K (nb tp 24 8) (nb tp 32 8)) (nb tp 24 8)
    have gs1 := mSrc_le K (nb tp 8 8) (nb tp 16 8)
    have gs2 := mGoal_le K (nb tp 24 8) (nb tp 32 8)
    have loopQ : ∀ (d : Nat) (j : Nat) (f : Nat → Int32) (_ : pkH tp + j + d = tp.length) (hf : LA f ((sqHd K tp) ++ cutD tp (pkH tp) j)), TW G X (MU (tw_uI (tw_uI S1 114 9 (nI (sqHd K tp).length)) 114 10 (nI (pkH tp))) 120 8 f ((sqHd K tp) ++ cutD tp (pkH tp) j)) [(9, .int (nI (pkH tp + j))), (0, .ref (tw_ad G 114))] 593 [] := by
      intro d
      induction d with
      | zero =>
        intro j f hj hf
        have hcl := cutD_len tp (pkH tp) j
        have hql := sqHd_len K tp
        refine tw_iload C dX11_squeezeTape_593 0 rfl ?_
        refine tw_aload_n C dX11_squeezeTape_595 1 rfl ?_
        refine tw_getI (v := nI tp.length) (k := 4) C dX11_squeezeTape_596 fc_X11 sh_114 (hM 114 (by decide) (by decide)) rfl (by decide) wd_189 hI1.2.1.2 ?_
        refine tn_icmp_ge C dX11_squeezeTape_599 (tgt := 619) (by decide) (by omega) (by omega) (fun c1 => ?_) (fun c1 => ?_)
        · skip
          exact tw_return (v := ()) C Q dX11_squeezeTape_619 rfl rfl (by
            have hj2 : j = tp.length - pkH tp := by omega
            subst hj2
            exact ⟨MI_rw (S := (tw_uI (tw_uI S1 114 9 (nI (sqHd K tp).length)) 114 10 (nI (pkH tp)))) hI1, hf, rfl, rfl, rfl⟩)
        · exact absurd c1 (by omega)
      | succ d ih =>
        intro j f hj hf
        have hcl := cutD_len tp (pkH tp) j
        have hql := sqHd_len K tp
        refine tw_iload C dX11_squeezeTape_593 0 rfl ?_
        refine tw_aload_n C dX11_squeezeTape_595 1 rfl ?_
        refine tw_getI (v := nI tp.length) (k := 4) C dX11_squeezeTape_596 fc_X11 sh_114 (hM 114 (by decide) (by decide)) rfl (by decide) wd_189 hI1.2.1.2 ?_
        refine tn_icmp_ge C dX11_squeezeTape_599 (tgt := 619) (by decide) (by omega) (by omega) (fun c1 => ?_) (fun c1 => ?_)
        · exact absurd c1 (by omega)
        refine tw_aload_n C dX11_squeezeTape_602 1 rfl ?_
        refine tw_aload_n C dX11_squeezeTape_603 1 rfl ?_
        refine tw_getR (q := 118) (k := 3) C dX11_squeezeTape_604 fc_X11 sh_114 (hM 114 (by decide) (by decide)) rfl (by decide) wd_114 ?_
        refine tw_iload C dX11_squeezeTape_607 0 rfl ?_
        refine tw_iald (v := nI (tp.getD (pkH tp + j) 0)) C dX11_squeezeTape_609 sn_118 sa_118 (hM 118 (by decide) (by decide)) (by omega) (by decide) (hT1 (pkH tp + j) (by omega)) ?_
        refine tw_callV (As := [.int (nI (tp.getD (pkH tp + j) 0))]) (rest := []) C N (c_X11_add hM (B := (tw_uI (tw_uI S1 114 9 (nI (sqHd K tp).length)) 114 10 (nI (pkH tp)))) (f := f) (xs := (sqHd K tp) ++ cutD tp (pkH tp) j) hf (by first | omega | (simp only [List.length_append, List.length_take, be_len, List.length_cons, List.length_nil]; omega)) (b := tp.getD (pkH tp + j) 0)) mm_X11_add wd_424 rfl (hM 114 (by decide) (by decide)) sh_114 rfl (by decide) rfl (Nat.le_of_ble_eq_true rfl) dX11_squeezeTape_610 ?_
        rintro _ _ ⟨f2, rfl, hf2⟩
        show TW G X (MU (tw_uI (tw_uI S1 114 9 (nI (sqHd K tp).length)) 114 10 (nI (pkH tp))) 120 8 f2 (((sqHd K tp) ++ cutD tp (pkH tp) j) ++ [(tp.getD (pkH tp + j) 0) % 256])) [(9, .int (nI (pkH tp + j))), (0, .ref (tw_ad G 114))] 613 []
        refine tw_iinc (k := 0) (v := nI (pkH tp + j + 1)) (L' := [(9, .int (nI (pkH tp + j + 1))), (0, .ref (tw_ad G 114))]) C N dX11_squeezeTape_613 rfl (tn_inc1 _) (by decide) rfl ?_
        refine tw_goto C dX11_squeezeTape_616 (tgt := 593) (by decide) ?_
        rw [cutP_step htb] at hf2 ⊢
        refine TW.c (L' := [(9, .int (nI (pkH tp + (j + 1)))), (0, .ref (tw_ad G 114))]) (by simp [Nat.add_assoc]) ?_
        exact ih (j + 1) f2 (by omega) hf2
    have t563 : ∀ (f : Nat → Int32) (hf : LA f (sqHd K tp)), TW G X (MU S1 120 8 f (sqHd K tp)) [(5, .int (bI (hasPB tp))), (0, .ref (tw_ad G 114))] 563 [] := by
      intro f hf
      refine tw_aload_n C dX11_squeezeTape_563 1 rfl ?_
      refine tw_aload_n C dX11_squeezeTape_564 1 rfl ?_
      refine tw_getI (v := nI ((sqHd K tp).length)) (k := 8) C dX11_squeezeTape_565 fc_X11 sh_114 (hM 114 (by decide) (by decide)) rfl (by decide) wd_390 rfl ?_
      refine tw_putI (k := 9) C dX11_squeezeTape_568 fc_X11 sh_114 (hM 114 (by decide) (by decide)) rfl (by decide) rfl wd_398 rfl rfl ?_
      refine tw_aload_n C dX11_squeezeTape_571 1 rfl ?_
      refine tw_iload C dX11_squeezeTape_572 0 rfl ?_
      refine tb_if_eq C dX11_squeezeTape_574 (tgt := 582) (by decide) (fun cp => ?_) (fun cp => ?_)
      · have hph : pkH tp = 40 := by rw [pkH, if_neg (by rw [cp]; decide)]
        refine tw_bipush C dX11_squeezeTape_582 (v := nI 40) (by decide) ?_
        refine tw_putI (k := 10) C dX11_squeezeTape_584 fc_X11 sh_114 (hM 114 (by decide) (by decide)) rfl (by decide) rfl wd_399 rfl rfl ?_
        refine TW.sS (S' := MU (tw_uI (tw_uI S1 114 9 (nI (sqHd K tp).length)) 114 10 (nI (pkH tp))) 120 8 f (sqHd K tp)) (by rw [hph, MU_uI (by decide), MU_uI (by decide)]) ?_
        refine tw_aload_n C dX11_squeezeTape_587 1 rfl ?_
        refine tw_getI (v := nI (pkH tp)) (k := 10) C dX11_squeezeTape_588 fc_X11 sh_114 (hM 114 (by decide) (by decide)) rfl (by decide) wd_399 rfl ?_
        refine tw_istore (L' := [(9, .int (nI (pkH tp))), (5, .int (bI (hasPB tp))), (0, .ref (tw_ad G 114))]) C N dX11_squeezeTape_591 (i := 9) (by decide) rfl ?_
        refine TW.sS (S' := MU (tw_uI (tw_uI S1 114 9 (nI (sqHd K tp).length)) 114 10 (nI (pkH tp))) 120 8 f ((sqHd K tp) ++ cutD tp (pkH tp) 0)) (by simp [cutD]) ?_
        refine TW.c (L' := [(9, .int (nI (pkH tp + 0))), (0, .ref (tw_ad G 114))]) (by simp) ?_
        exact loopQ (tp.length - pkH tp) 0 f (by omega) (by simpa [cutD] using hf)
      · have hph : pkH tp = 48 := by rw [pkH, if_pos cp]
        refine tw_bipush C dX11_squeezeTape_577 (v := nI 48) (by decide) ?_
        refine tw_goto C dX11_squeezeTape_579 (tgt := 584) (by decide) ?_
        refine tw_putI (k := 10) C dX11_squeezeTape_584 fc_X11 sh_114 (hM 114 (by decide) (by decide)) rfl (by decide) rfl wd_399 rfl rfl ?_
        refine TW.sS (S' := MU (tw_uI (tw_uI S1 114 9 (nI (sqHd K tp).length)) 114 10 (nI (pkH tp))) 120 8 f (sqHd K tp)) (by rw [hph, MU_uI (by decide), MU_uI (by decide)]) ?_
        refine tw_aload_n C dX11_squeezeTape_587 1 rfl ?_
        refine tw_getI (v := nI (pkH tp)) (k := 10) C dX11_squeezeTape_588 fc_X11 sh_114 (hM 114 (by decide) (by decide)) rfl (by decide) wd_399 rfl ?_
        refine tw_istore (L' := [(9, .int (nI (pkH tp))), (5, .int (bI (hasPB tp))), (0, .ref (tw_ad G 114))]) C N dX11_squeezeTape_591 (i := 9) (by decide) rfl ?_
        refine TW.sS (S' := MU (tw_uI (tw_uI S1 114 9 (nI (sqHd K tp).length)) 114 10 (nI (pkH tp))) 120 8 f ((sqHd K tp) ++ cutD tp (pkH tp) 0)) (by simp [cutD]) ?_
        refine TW.c (L' := [(9, .int (nI (pkH tp + 0))), (0, .ref (tw_ad G 114))]) (by simp) ?_
        exact loopQ (tp.length - pkH tp) 0 f (by omega) (by simpa [cutD] using hf)
    have t554 : ∀ (f : Nat → Int32) (xs : List Nat) (_ : LA f xs) (_ : xs.length ≤ 64) (_ : xs ++ (if hasPB tp then sqPo (nb tp 40 2) (nb tp 42 2) (nb tp 46 2) else []) = (sqHd K tp)), TW G X (MU S1 120 8 f xs) [(5, .int (bI (hasPB tp))), (0, .ref (tw_ad G 114))] 554 [] := by
      intro f xs hf hxl hx
      refine tw_iload C dX11_squeezeTape_554 0 rfl ?_
      refine tb_if_eq C dX11_squeezeTape_556 (tgt := 563) (by decide) (fun cp => ?_) (fun cp => ?_)
      · skip
        have e : xs = (sqHd K tp) := by rw [← hx]; simp [cp]
        rw [e] at hf ⊢
        exact t563 f hf
      · have h48 := ((hasPB_iff tp).mp cp).2.1
        refine tw_aload_n C dX11_squeezeTape_559 1 rfl ?_
        refine tw_callV (As := []) (rest := []) C N (c_X11_addPorts hM (B := S1) (f := f) (xs := xs) hf (tp := tp) hT1 htb htl h48 (by first | omega | (simp only [List.length_append, List.length_take, be_len, cutD_len, List.length_cons, List.length_nil]; omega))) mm_X11_addPorts wd_436 rfl (hM 114 (by decide) (by decide)) sh_114 rfl (by decide) rfl (Nat.le_of_ble_eq_true rfl) dX11_squeezeTape_560 ?_
        rintro _ _ ⟨f1, rfl, hf1⟩
        show TW G X (MU S1 120 8 f1 (xs ++ sqPo (nb tp 40 2) (nb tp 42 2) (nb tp 46 2))) [(5, .int (bI (hasPB tp))), (0, .ref (tw_ad G 114))] 563 []
        have e : xs ++ sqPo (nb tp 40 2) (nb tp 42 2) (nb tp 46 2) = (sqHd K tp) := by rw [← hx]; simp [cp]
        rw [e] at hf1 ⊢
        exact t563 f1 hf1
    have lp530 : ∀ (a : Nat) (xs : List Nat) (_ : xs ++ (cutD tp a (40 - a) ++ (if hasPB tp then sqPo (nb tp 40 2) (nb tp 42 2) (nb tp 46 2) else [])) = (sqHd K tp)) (_ : xs.length ≤ 30) (_ : 35 ≤ a), ∀ (d : Nat) (j : Nat) (f : Nat → Int32) (_ : a + j + d = 40) (hf : LA f (xs ++ cutD tp a j)), TW G X (MU S1 120 8 f (xs ++ cutD tp a j)) [(9, .int (nI (a + j))), (5, .int (bI (hasPB tp))), (0, .ref (tw_ad G 114))] 530 [] := by
      intro a xs hx hxl ha d
      induction d with
      | zero =>
        intro j f hj hf
        have hcl := cutD_len tp a j
        refine tw_iload C dX11_squeezeTape_530 0 rfl ?_
        refine tw_bipush C dX11_squeezeTape_532 (v := nI 40) (by decide) ?_
        refine tn_icmp_ge C dX11_squeezeTape_534 (tgt := 554) (by decide) (by omega) (by omega) (fun c1 => ?_) (fun c1 => ?_)
        · skip
          have hj2 : j = 40 - a := by omega
          subst hj2
          refine TW.c (L' := [(5, .int (bI (hasPB tp))), (0, .ref (tw_ad G 114))]) (by simp) ?_
          exact t554 f _ hf (by first | omega | (simp only [List.length_append, List.length_take, be_len, cutD_len, List.length_cons, List.length_nil]; omega)) (by rw [List.append_assoc]; exact hx)
        · exact absurd c1 (by omega)
      | succ d ih =>
        intro j f hj hf
        have hcl := cutD_len tp a j
        refine tw_iload C dX11_squeezeTape_530 0 rfl ?_
        refine tw_bipush C dX11_squeezeTape_532 (v := nI 40) (by decide) ?_
        refine tn_icmp_ge C dX11_squeezeTape_534 (tgt := 554) (by decide) (by omega) (by omega) (fun c1 => ?_) (fun c1 => ?_)
        · exact absurd c1 (by omega)
        refine tw_aload_n C dX11_squeezeTape_537 2 rfl ?_
        refine tw_aload_n C dX11_squeezeTape_538 2 rfl ?_
        refine tw_getR (q := 118) (k := 3) C dX11_squeezeTape_539 fc_X11 sh_114 (hM 114 (by decide) (by decide)) rfl (by decide) wd_114 ?_
        refine tw_iload C dX11_squeezeTape_542 0 rfl ?_
        refine tw_iald (v := nI (tp.getD (a + j) 0)) C dX11_squeezeTape_544 sn_118 sa_118 (hM 118 (by decide) (by decide)) (by omega) (by decide) (hT1 (a + j) (by omega)) ?_
        refine tw_callV (As := [.int (nI (tp.getD (a + j) 0))]) (rest := []) C N (c_X11_add hM (B := S1) (f := f) (xs := xs ++ cutD tp a j) hf (by first | omega | (simp only [List.length_append, List.length_take, be_len, List.length_cons, List.length_nil]; omega)) (b := tp.getD (a + j) 0)) mm_X11_add wd_424 rfl (hM 114 (by decide) (by decide)) sh_114 rfl (by decide) rfl (Nat.le_of_ble_eq_true rfl) dX11_squeezeTape_545 ?_
        rintro _ _ ⟨f2, rfl, hf2⟩
        show TW G X (MU S1 120 8 f2 ((xs ++ cutD tp a j) ++ [(tp.getD (a + j) 0) % 256])) [(9, .int (nI (a + j))), (5, .int (bI (hasPB tp))), (0, .ref (tw_ad G 114))] 548 []
        refine tw_iinc (k := 0) (v := nI (a + j + 1)) (L' := [(9, .int (nI (a + j + 1))), (5, .int (bI (hasPB tp))), (0, .ref (tw_ad G 114))]) C N dX11_squeezeTape_548 rfl (tn_inc1 _) (by decide) rfl ?_
        refine tw_goto C dX11_squeezeTape_551 (tgt := 530) (by decide) ?_
        rw [cutP_step htb] at hf2 ⊢
        refine TW.c (L' := [(9, .int (nI (a + (j + 1)))), (5, .int (bI (hasPB tp))), (0, .ref (tw_ad G 114))]) (by simp [Nat.add_assoc]) ?_
        exact ih (j + 1) f2 (by omega) hf2
    have t437 : ∀ (f : Nat → Int32) (xs : List Nat) (_ : LA f xs) (_ : xs.length ≤ 28) (_ : xs ++ (sqAd (mGoal K (nb tp 24 8) (nb tp 32 8)) (nb tp 24 8) (nb tp 32 8) ++ (if hasPB tp then sqPo (nb tp 40 2) (nb tp 42 2) (nb tp 46 2) else [])) = (sqHd K tp)), TW G X (MU S1 120 8 f xs) [(5, .int (bI (hasPB tp))), (0, .ref (tw_ad G 114))] 437 [] := by
      intro f xs hf hxl hx
      refine tw_aload_n C dX11_squeezeTape_437 1 rfl ?_
      refine tw_getI (v := nI ((mGoal K (nb tp 24 8) (nb tp 32 8)) / 8)) (k := 14) C dX11_squeezeTape_438 fc_X11 sh_114 (hM 114 (by decide) (by decide)) rfl (by decide) wd_395 h14 ?_
      refine tn_if_ne C dX11_squeezeTape_441 (tgt := 464) (by decide) (by omega) (fun c1 => ?_) (fun c1 => ?_)
      · skip
        refine tw_aload_n C dX11_squeezeTape_464 1 rfl ?_
        refine tw_getI (v := nI ((mGoal K (nb tp 24 8) (nb tp 32 8)) % 4)) (k := 16) C dX11_squeezeTape_465 fc_X11 sh_114 (hM 114 (by decide) (by decide)) rfl (by decide) wd_397 h16 ?_
        refine tn_if_ne C dX11_squeezeTape_468 (tgt := 480) (by decide) (by omega) (fun c1 => ?_) (fun c1 => ?_)
        · skip
          refine tw_aload_n C dX11_squeezeTape_480 1 rfl ?_
          refine tw_getI (v := nI ((mGoal K (nb tp 24 8) (nb tp 32 8)) % 4)) (k := 16) C dX11_squeezeTape_481 fc_X11 sh_114 (hM 114 (by decide) (by decide)) rfl (by decide) wd_397 h16 ?_
          refine tw_iconst C dX11_squeezeTape_484 (v := nI 3) (by decide) ?_
          refine tn_icmp_ne C dX11_squeezeTape_485 (tgt := 502) (by decide) (by omega) (by omega) (fun c2 => ?_) (fun c2 => ?_)
          · skip
            refine tw_aload_n C dX11_squeezeTape_502 1 rfl ?_
            refine tw_aload_n C dX11_squeezeTape_503 1 rfl ?_
            refine tw_getR (q := 118) (k := 3) C dX11_squeezeTape_504 fc_X11 sh_114 (hM 114 (by decide) (by decide)) rfl (by decide) wd_114 ?_
            refine tw_bipush C dX11_squeezeTape_507 (v := nI 25) (by decide) ?_
            refine tw_iald (v := nI (tp.getD 25 0)) C dX11_squeezeTape_509 sn_118 sa_118 (hM 118 (by decide) (by decide)) (by omega) (by decide) (hT1 25 (by omega)) ?_
            refine tw_callV (As := [.int (nI (tp.getD 25 0))]) (rest := []) C N (c_X11_add hM (B := S1) (f := f) (xs := xs) hf (by first | omega | (simp only [List.length_append, List.length_take, be_len, List.length_cons, List.length_nil]; omega)) (b := tp.getD 25 0)) mm_X11_add wd_424 rfl (hM 114 (by decide) (by decide)) sh_114 rfl (by decide) rfl (Nat.le_of_ble_eq_true rfl) dX11_squeezeTape_510 ?_
            rintro _ _ ⟨f3, rfl, hf3⟩
            show TW G X (MU S1 120 8 f3 (xs ++ [(tp.getD 25 0) % 256])) [(5, .int (bI (hasPB tp))), (0, .ref (tw_ad G 114))] 513 []
            refine tw_aload_n C dX11_squeezeTape_513 1 rfl ?_
            refine tw_getI (v := nI ((mGoal K (nb tp 24 8) (nb tp 32 8)) % 4)) (k := 16) C dX11_squeezeTape_514 fc_X11 sh_114 (hM 114 (by decide) (by decide)) rfl (by decide) wd_397 h16 ?_
            refine tw_iconst C dX11_squeezeTape_517 (v := nI 1) (by decide) ?_
            refine tn_icmp_ne C dX11_squeezeTape_518 (tgt := 526) (by decide) (by omega) (by omega) (fun c5 => ?_) (fun c5 => ?_)
            · skip
              refine tw_bipush C dX11_squeezeTape_526 (v := nI 37) (by decide) ?_
              refine tw_istore (L' := [(9, .int (nI 37)), (5, .int (bI (hasPB tp))), (0, .ref (tw_ad G 114))]) C N dX11_squeezeTape_528 (i := 9) (by decide) rfl ?_
              have hg : (mGoal K (nb tp 24 8) (nb tp 32 8)) = 10 := by omega
              have e := sqAd_m htb (m := (mGoal K (nb tp 24 8) (nb tp 32 8))) (by omega)
              rw [hg] at e
              refine TW.sS (S' := MU S1 120 8 f3 ((xs ++ [(tp.getD 25 0) % 256]) ++ cutD tp 37 0)) (by simp [cutD]) ?_
              refine TW.c (L' := [(9, .int (nI (37 + 0))), (5, .int (bI (hasPB tp))), (0, .ref (tw_ad G 114))]) (by simp) ?_
              exact lp530 37 (xs ++ [(tp.getD 25 0) % 256]) (by rw [← hx, hg, e, Nat.mod_eq_of_lt (gD_lt htb 25)]; simp only [List.append_assoc, List.cons_append, List.nil_append]; rfl) (by first | omega | (simp only [List.length_append, List.length_take, be_len, cutD_len, List.length_cons, List.length_nil]; omega)) (by decide) 3 0 f3 rfl (by simpa [cutD] using hf3)
            · skip
              refine tw_bipush C dX11_squeezeTape_521 (v := nI 35) (by decide) ?_
              refine tw_goto C dX11_squeezeTape_523 (tgt := 528) (by decide) ?_
              refine tw_istore (L' := [(9, .int (nI 35)), (5, .int (bI (hasPB tp))), (0, .ref (tw_ad G 114))]) C N dX11_squeezeTape_528 (i := 9) (by decide) rfl ?_
              have hg : (mGoal K (nb tp 24 8) (nb tp 32 8)) = 9 := by omega
              have e := sqAd_m htb (m := (mGoal K (nb tp 24 8) (nb tp 32 8))) (by omega)
              rw [hg] at e
              refine TW.sS (S' := MU S1 120 8 f3 ((xs ++ [(tp.getD 25 0) % 256]) ++ cutD tp 35 0)) (by simp [cutD]) ?_
              refine TW.c (L' := [(9, .int (nI (35 + 0))), (5, .int (bI (hasPB tp))), (0, .ref (tw_ad G 114))]) (by simp) ?_
              exact lp530 35 (xs ++ [(tp.getD 25 0) % 256]) (by rw [← hx, hg, e, Nat.mod_eq_of_lt (gD_lt htb 25)]; simp only [List.append_assoc, List.cons_append, List.nil_append]; rfl) (by first | omega | (simp only [List.length_append, List.length_take, be_len, cutD_len, List.length_cons, List.length_nil]; omega)) (by decide) 5 0 f3 rfl (by simpa [cutD] using hf3)
          · skip
            refine tw_aload_n C dX11_squeezeTape_488 1 rfl ?_
            refine tw_aload_n C dX11_squeezeTape_489 1 rfl ?_
            refine tw_getR (q := 118) (k := 3) C dX11_squeezeTape_490 fc_X11 sh_114 (hM 114 (by decide) (by decide)) rfl (by decide) wd_114 ?_
            refine tw_bipush C dX11_squeezeTape_493 (v := nI 39) (by decide) ?_
            refine tw_iald (v := nI (tp.getD 39 0)) C dX11_squeezeTape_495 sn_118 sa_118 (hM 118 (by decide) (by decide)) (by omega) (by decide) (hT1 39 (by omega)) ?_
            refine tw_callV (As := [.int (nI (tp.getD 39 0))]) (rest := []) C N (c_X11_add hM (B := S1) (f := f) (xs := xs) hf (by first | omega | (simp only [List.length_append, List.length_take, be_len, List.length_cons, List.length_nil]; omega)) (b := tp.getD 39 0)) mm_X11_add wd_424 rfl (hM 114 (by decide) (by decide)) sh_114 rfl (by decide) rfl (Nat.le_of_ble_eq_true rfl) dX11_squeezeTape_496 ?_
            rintro _ _ ⟨f6, rfl, hf6⟩
            show TW G X (MU S1 120 8 f6 (xs ++ [(tp.getD 39 0) % 256])) [(5, .int (bI (hasPB tp))), (0, .ref (tw_ad G 114))] 499 []
            refine tw_goto C dX11_squeezeTape_499 (tgt := 554) (by decide) ?_
            refine TW.c (L' := [(5, .int (bI (hasPB tp))), (0, .ref (tw_ad G 114))]) (by simp) ?_
            exact t554 f6 (xs ++ [(tp.getD 39 0) % 256]) hf6 (by first | omega | (simp only [List.length_append, List.length_take, be_len, cutD_len, List.length_cons, List.length_nil]; omega)) (by rw [← hx, show (mGoal K (nb tp 24 8) (nb tp 32 8)) = 11 by omega, sqAd_11 htb, Nat.mod_eq_of_lt (gD_lt htb 39)]; simp only [List.append_assoc, List.cons_append, List.nil_append])
        · skip
          refine tw_aload_n C dX11_squeezeTape_471 1 rfl ?_
          refine tw_bipush C dX11_squeezeTape_472 (v := nI 24) (by decide) ?_
          refine tw_callV (As := [.int (nI 24)]) (rest := []) C N (c_X11_addAll hM (B := S1) (f := f) (xs := xs) hf (tp := tp) hT1 htb htl (a := 24) (by omega) (by first | omega | (simp only [List.length_append, List.length_take, be_len, cutD_len, List.length_cons, List.length_nil]; omega))) mm_X11_addAll wd_432 rfl (hM 114 (by decide) (by decide)) sh_114 rfl (by decide) rfl (Nat.le_of_ble_eq_true rfl) dX11_squeezeTape_474 ?_
          rintro _ _ ⟨f8, rfl, hf8⟩
          show TW G X (MU S1 120 8 f8 (xs ++ cutD tp 24 16)) [(5, .int (bI (hasPB tp))), (0, .ref (tw_ad G 114))] 477 []
          refine tw_goto C dX11_squeezeTape_477 (tgt := 554) (by decide) ?_
          refine TW.c (L' := [(5, .int (bI (hasPB tp))), (0, .ref (tw_ad G 114))]) (by simp) ?_
          exact t554 f8 (xs ++ cutD tp 24 16) hf8 (by first | omega | (simp only [List.length_append, List.length_take, be_len, cutD_len, List.length_cons, List.length_nil]; omega)) (by rw [← hx, sqAd_16 htb 24 (by omega)]; simp only [List.append_assoc, List.cons_append, List.nil_append])
      · skip
        refine tw_aload_n C dX11_squeezeTape_444 1 rfl ?_
        refine tw_getI (v := nI ((mGoal K (nb tp 24 8) (nb tp 32 8)) % 4)) (k := 16) C dX11_squeezeTape_445 fc_X11 sh_114 (hM 114 (by decide) (by decide)) rfl (by decide) wd_397 h16 ?_
        refine tn_if_le C dX11_squeezeTape_448 (tgt := 464) (by decide) (by omega) (fun c2 => ?_) (fun c2 => ?_)
        · skip
          refine tw_aload_n C dX11_squeezeTape_464 1 rfl ?_
          refine tw_getI (v := nI ((mGoal K (nb tp 24 8) (nb tp 32 8)) % 4)) (k := 16) C dX11_squeezeTape_465 fc_X11 sh_114 (hM 114 (by decide) (by decide)) rfl (by decide) wd_397 h16 ?_
          refine tn_if_ne C dX11_squeezeTape_468 (tgt := 480) (by decide) (by omega) (fun c10 => ?_) (fun c10 => ?_)
          · skip
            refine tw_aload_n C dX11_squeezeTape_480 1 rfl ?_
            refine tw_getI (v := nI ((mGoal K (nb tp 24 8) (nb tp 32 8)) % 4)) (k := 16) C dX11_squeezeTape_481 fc_X11 sh_114 (hM 114 (by decide) (by decide)) rfl (by decide) wd_397 h16 ?_
            refine tw_iconst C dX11_squeezeTape_484 (v := nI 3) (by decide) ?_
            refine tn_icmp_ne C dX11_squeezeTape_485 (tgt := 502) (by decide) (by omega) (by omega) (fun c11 => ?_) (fun c11 => ?_)
            · skip
              refine tw_aload_n C dX11_squeezeTape_502 1 rfl ?_
              refine tw_aload_n C dX11_squeezeTape_503 1 rfl ?_
              refine tw_getR (q := 118) (k := 3) C dX11_squeezeTape_504 fc_X11 sh_114 (hM 114 (by decide) (by decide)) rfl (by decide) wd_114 ?_
              refine tw_bipush C dX11_squeezeTape_507 (v := nI 25) (by decide) ?_
              refine tw_iald (v := nI (tp.getD 25 0)) C dX11_squeezeTape_509 sn_118 sa_118 (hM 118 (by decide) (by decide)) (by omega) (by decide) (hT1 25 (by omega)) ?_
              refine tw_callV (As := [.int (nI (tp.getD 25 0))]) (rest := []) C N (c_X11_add hM (B := S1) (f := f) (xs := xs) hf (by first | omega | (simp only [List.length_append, List.length_take, be_len, List.length_cons, List.length_nil]; omega)) (b := tp.getD 25 0)) mm_X11_add wd_424 rfl (hM 114 (by decide) (by decide)) sh_114 rfl (by decide) rfl (Nat.le_of_ble_eq_true rfl) dX11_squeezeTape_510 ?_
              rintro _ _ ⟨f12, rfl, hf12⟩
              show TW G X (MU S1 120 8 f12 (xs ++ [(tp.getD 25 0) % 256])) [(5, .int (bI (hasPB tp))), (0, .ref (tw_ad G 114))] 513 []
              refine tw_aload_n C dX11_squeezeTape_513 1 rfl ?_
              refine tw_getI (v := nI ((mGoal K (nb tp 24 8) (nb tp 32 8)) % 4)) (k := 16) C dX11_squeezeTape_514 fc_X11 sh_114 (hM 114 (by decide) (by decide)) rfl (by decide) wd_397 h16 ?_
              refine tw_iconst C dX11_squeezeTape_517 (v := nI 1) (by decide) ?_
              refine tn_icmp_ne C dX11_squeezeTape_518 (tgt := 526) (by decide) (by omega) (by omega) (fun c14 => ?_) (fun c14 => ?_)
              · skip
                refine tw_bipush C dX11_squeezeTape_526 (v := nI 37) (by decide) ?_
                refine tw_istore (L' := [(9, .int (nI 37)), (5, .int (bI (hasPB tp))), (0, .ref (tw_ad G 114))]) C N dX11_squeezeTape_528 (i := 9) (by decide) rfl ?_
                have hg : (mGoal K (nb tp 24 8) (nb tp 32 8)) = 10 := by omega
                have e := sqAd_m htb (m := (mGoal K (nb tp 24 8) (nb tp 32 8))) (by omega)
                rw [hg] at e
                refine TW.sS (S' := MU S1 120 8 f12 ((xs ++ [(tp.getD 25 0) % 256]) ++ cutD tp 37 0)) (by simp [cutD]) ?_
                refine TW.c (L' := [(9, .int (nI (37 + 0))), (5, .int (bI (hasPB tp))), (0, .ref (tw_ad G 114))]) (by simp) ?_
                exact lp530 37 (xs ++ [(tp.getD 25 0) % 256]) (by rw [← hx, hg, e, Nat.mod_eq_of_lt (gD_lt htb 25)]; simp only [List.append_assoc, List.cons_append, List.nil_append]; rfl) (by first | omega | (simp only [List.length_append, List.length_take, be_len, cutD_len, List.length_cons, List.length_nil]; omega)) (by decide) 3 0 f12 rfl (by simpa [cutD] using hf12)
              · skip
                refine tw_bipush C dX11_squeezeTape_521 (v := nI 35) (by decide) ?_
                refine tw_goto C dX11_squeezeTape_523 (tgt := 528) (by decide) ?_
                refine tw_istore (L' := [(9, .int (nI 35)), (5, .int (bI (hasPB tp))), (0, .ref (tw_ad G 114))]) C N dX11_squeezeTape_528 (i := 9) (by decide) rfl ?_
                have hg : (mGoal K (nb tp 24 8) (nb tp 32 8)) = 9 := by omega
                have e := sqAd_m htb (m := (mGoal K (nb tp 24 8) (nb tp 32 8))) (by omega)
                rw [hg] at e
                refine TW.sS (S' := MU S1 120 8 f12 ((xs ++ [(tp.getD 25 0) % 256]) ++ cutD tp 35 0)) (by simp [cutD]) ?_
                refine TW.c (L' := [(9, .int (nI (35 + 0))), (5, .int (bI (hasPB tp))), (0, .ref (tw_ad G 114))]) (by simp) ?_
                exact lp530 35 (xs ++ [(tp.getD 25 0) % 256]) (by rw [← hx, hg, e, Nat.mod_eq_of_lt (gD_lt htb 25)]; simp only [List.append_assoc, List.cons_append, List.nil_append]; rfl) (by first | omega | (simp only [List.length_append, List.length_take, be_len, cutD_len, List.length_cons, List.length_nil]; omega)) (by decide) 5 0 f12 rfl (by simpa [cutD] using hf12)
            · skip
              refine tw_aload_n C dX11_squeezeTape_488 1 rfl ?_
              refine tw_aload_n C dX11_squeezeTape_489 1 rfl ?_
              refine tw_getR (q := 118) (k := 3) C dX11_squeezeTape_490 fc_X11 sh_114 (hM 114 (by decide) (by decide)) rfl (by decide) wd_114 ?_
              refine tw_bipush C dX11_squeezeTape_493 (v := nI 39) (by decide) ?_
              refine tw_iald (v := nI (tp.getD 39 0)) C dX11_squeezeTape_495 sn_118 sa_118 (hM 118 (by decide) (by decide)) (by omega) (by decide) (hT1 39 (by omega)) ?_
              refine tw_callV (As := [.int (nI (tp.getD 39 0))]) (rest := []) C N (c_X11_add hM (B := S1) (f := f) (xs := xs) hf (by first | omega | (simp only [List.length_append, List.length_take, be_len, List.length_cons, List.length_nil]; omega)) (b := tp.getD 39 0)) mm_X11_add wd_424 rfl (hM 114 (by decide) (by decide)) sh_114 rfl (by decide) rfl (Nat.le_of_ble_eq_true rfl) dX11_squeezeTape_496 ?_
              rintro _ _ ⟨f15, rfl, hf15⟩
              show TW G X (MU S1 120 8 f15 (xs ++ [(tp.getD 39 0) % 256])) [(5, .int (bI (hasPB tp))), (0, .ref (tw_ad G 114))] 499 []
              refine tw_goto C dX11_squeezeTape_499 (tgt := 554) (by decide) ?_
              refine TW.c (L' := [(5, .int (bI (hasPB tp))), (0, .ref (tw_ad G 114))]) (by simp) ?_
              exact t554 f15 (xs ++ [(tp.getD 39 0) % 256]) hf15 (by first | omega | (simp only [List.length_append, List.length_take, be_len, cutD_len, List.length_cons, List.length_nil]; omega)) (by rw [← hx, show (mGoal K (nb tp 24 8) (nb tp 32 8)) = 11 by omega, sqAd_11 htb, Nat.mod_eq_of_lt (gD_lt htb 39)]; simp only [List.append_assoc, List.cons_append, List.nil_append])
          · skip
            refine tw_aload_n C dX11_squeezeTape_471 1 rfl ?_
            refine tw_bipush C dX11_squeezeTape_472 (v := nI 24) (by decide) ?_
            refine tw_callV (As := [.int (nI 24)]) (rest := []) C N (c_X11_addAll hM (B := S1) (f := f) (xs := xs) hf (tp := tp) hT1 htb htl (a := 24) (by omega) (by first | omega | (simp only [List.length_append, List.length_take, be_len, cutD_len, List.length_cons, List.length_nil]; omega))) mm_X11_addAll wd_432 rfl (hM 114 (by decide) (by decide)) sh_114 rfl (by decide) rfl (Nat.le_of_ble_eq_true rfl) dX11_squeezeTape_474 ?_
            rintro _ _ ⟨f17, rfl, hf17⟩
            show TW G X (MU S1 120 8 f17 (xs ++ cutD tp 24 16)) [(5, .int (bI (hasPB tp))), (0, .ref (tw_ad G 114))] 477 []
            refine tw_goto C dX11_squeezeTape_477 (tgt := 554) (by decide) ?_
            refine TW.c (L' := [(5, .int (bI (hasPB tp))), (0, .ref (tw_ad G 114))]) (by simp) ?_
            exact t554 f17 (xs ++ cutD tp 24 16) hf17 (by first | omega | (simp only [List.length_append, List.length_take, be_len, cutD_len, List.length_cons, List.length_nil]; omega)) (by rw [← hx, sqAd_16 htb 24 (by omega)]; simp only [List.append_assoc, List.cons_append, List.nil_append])
        · skip
          refine tw_aload_n C dX11_squeezeTape_451 1 rfl ?_
          refine tw_bipush C dX11_squeezeTape_452 (v := nI 24) (by decide) ?_
          refine tw_aload_n C dX11_squeezeTape_454 1 rfl ?_
          refine tw_getI (v := nI ((mGoal K (nb tp 24 8) (nb tp 32 8)) % 4)) (k := 16) C dX11_squeezeTape_455 fc_X11 sh_114 (hM 114 (by decide) (by decide)) rfl (by decide) wd_397 h16 ?_
          refine tw_callV (As := [.int (nI 24), .int (nI ((mGoal K (nb tp 24 8) (nb tp 32 8)) % 4))]) (rest := []) C N (c_X11_addLasts hM (B := S1) (f := f) (xs := xs) hf (tp := tp) hT1 htb htl (a := 24) (m := (mGoal K (nb tp 24 8) (nb tp 32 8)) % 4) (by omega) (by omega) (by first | omega | (simp only [List.length_append, List.length_take, be_len, cutD_len, List.length_cons, List.length_nil]; omega))) mm_X11_addLasts wd_428 rfl (hM 114 (by decide) (by decide)) sh_114 rfl (by decide) rfl (Nat.le_of_ble_eq_true rfl) dX11_squeezeTape_458 ?_
          rintro _ _ ⟨f19, rfl, hf19⟩
          show TW G X (MU S1 120 8 f19 (xs ++ cutD tp (24 + lsS ((mGoal K (nb tp 24 8) (nb tp 32 8)) % 4)) (16 - lsS ((mGoal K (nb tp 24 8) (nb tp 32 8)) % 4)))) [(5, .int (bI (hasPB tp))), (0, .ref (tw_ad G 114))] 461 []
          refine tw_goto C dX11_squeezeTape_461 (tgt := 554) (by decide) ?_
          refine TW.c (L' := [(5, .int (bI (hasPB tp))), (0, .ref (tw_ad G 114))]) (by simp) ?_
          exact t554 f19 (xs ++ cutD tp (24 + lsS ((mGoal K (nb tp 24 8) (nb tp 32 8)) % 4)) (16 - lsS ((mGoal K (nb tp 24 8) (nb tp 32 8)) % 4))) hf19 (by first | omega | (simp only [List.length_append, List.length_take, be_len, cutD_len, List.length_cons, List.length_nil]; omega)) (by rw [← hx, sqAd_lo htb 24 (by omega) (by omega)]; simp only [List.append_assoc, List.cons_append, List.nil_append])
    have t404 : ∀ (f : Nat → Int32) (xs : List Nat) (_ : LA f xs) (_ : xs.length ≤ 12) (_ : xs ++ (sqAd (mSrc K (nb tp 8 8) (nb tp 16 8)) (nb tp 8 8) (nb tp 16 8) ++ (sqAd (mGoal K (nb tp 24 8) (nb tp 32 8)) (nb tp 24 8) (nb tp 32 8) ++ (if hasPB tp then sqPo (nb tp 40 2) (nb tp 42 2) (nb tp 46 2) else []))) = (sqHd K tp)), TW G X (MU S1 120 8 f xs) [(5, .int (bI (hasPB tp))), (0, .ref (tw_ad G 114))] 404 [] := by
      intro f xs hf hxl hx
      refine tw_aload_n C dX11_squeezeTape_404 1 rfl ?_
      refine tw_getI (v := nI ((mSrc K (nb tp 8 8) (nb tp 16 8)) % 4)) (k := 12) C dX11_squeezeTape_405 fc_X11 sh_114 (hM 114 (by decide) (by decide)) rfl (by decide) wd_394 h12 ?_
      refine tn_if_le C dX11_squeezeTape_408 (tgt := 424) (by decide) (by omega) (fun c1 => ?_) (fun c1 => ?_)
      · skip
        refine tw_aload_n C dX11_squeezeTape_424 1 rfl ?_
        refine tw_getI (v := nI ((mSrc K (nb tp 8 8) (nb tp 16 8)) / 4)) (k := 11) C dX11_squeezeTape_425 fc_X11 sh_114 (hM 114 (by decide) (by decide)) rfl (by decide) wd_393 h11 ?_
        refine tn_if_ne C dX11_squeezeTape_428 (tgt := 437) (by decide) (by omega) (fun c2 => ?_) (fun c2 => ?_)
        · skip
          refine TW.c (L' := [(5, .int (bI (hasPB tp))), (0, .ref (tw_ad G 114))]) (by simp) ?_
          exact t437 f (xs) hf (by first | omega | (simp only [List.length_append, List.length_take, be_len, cutD_len, List.length_cons, List.length_nil]; omega)) (by rw [← hx, show (mSrc K (nb tp 8 8) (nb tp 16 8)) = 4 by omega]; rfl)
        · skip
          refine tw_aload_n C dX11_squeezeTape_431 1 rfl ?_
          refine tw_bipush C dX11_squeezeTape_432 (v := nI 8) (by decide) ?_
          refine tw_callV (As := [.int (nI 8)]) (rest := []) C N (c_X11_addAll hM (B := S1) (f := f) (xs := xs) hf (tp := tp) hT1 htb htl (a := 8) (by omega) (by first | omega | (simp only [List.length_append, List.length_take, be_len, cutD_len, List.length_cons, List.length_nil]; omega))) mm_X11_addAll wd_432 rfl (hM 114 (by decide) (by decide)) sh_114 rfl (by decide) rfl (Nat.le_of_ble_eq_true rfl) dX11_squeezeTape_434 ?_
          rintro _ _ ⟨f3, rfl, hf3⟩
          show TW G X (MU S1 120 8 f3 (xs ++ cutD tp 8 16)) [(5, .int (bI (hasPB tp))), (0, .ref (tw_ad G 114))] 437 []
          refine TW.c (L' := [(5, .int (bI (hasPB tp))), (0, .ref (tw_ad G 114))]) (by simp) ?_
          exact t437 f3 (xs ++ cutD tp 8 16) hf3 (by first | omega | (simp only [List.length_append, List.length_take, be_len, cutD_len, List.length_cons, List.length_nil]; omega)) (by rw [← hx, sqAd_16 htb 8 (by omega)]; simp only [List.append_assoc, List.cons_append, List.nil_append])
      · skip
        refine tw_aload_n C dX11_squeezeTape_411 1 rfl ?_
        refine tw_bipush C dX11_squeezeTape_412 (v := nI 8) (by decide) ?_
        refine tw_aload_n C dX11_squeezeTape_414 1 rfl ?_
        refine tw_getI (v := nI ((mSrc K (nb tp 8 8) (nb tp 16 8)) % 4)) (k := 12) C dX11_squeezeTape_415 fc_X11 sh_114 (hM 114 (by decide) (by decide)) rfl (by decide) wd_394 h12 ?_
        refine tw_callV (As := [.int (nI 8), .int (nI ((mSrc K (nb tp 8 8) (nb tp 16 8)) % 4))]) (rest := []) C N (c_X11_addLasts hM (B := S1) (f := f) (xs := xs) hf (tp := tp) hT1 htb htl (a := 8) (m := (mSrc K (nb tp 8 8) (nb tp 16 8)) % 4) (by omega) (by omega) (by first | omega | (simp only [List.length_append, List.length_take, be_len, cutD_len, List.length_cons, List.length_nil]; omega))) mm_X11_addLasts wd_428 rfl (hM 114 (by decide) (by decide)) sh_114 rfl (by decide) rfl (Nat.le_of_ble_eq_true rfl) dX11_squeezeTape_418 ?_
        rintro _ _ ⟨f5, rfl, hf5⟩
        show TW G X (MU S1 120 8 f5 (xs ++ cutD tp (8 + lsS ((mSrc K (nb tp 8 8) (nb tp 16 8)) % 4)) (16 - lsS ((mSrc K (nb tp 8 8) (nb tp 16 8)) % 4)))) [(5, .int (bI (hasPB tp))), (0, .ref (tw_ad G 114))] 421 []
        refine tw_goto C dX11_squeezeTape_421 (tgt := 437) (by decide) ?_
        refine TW.c (L' := [(5, .int (bI (hasPB tp))), (0, .ref (tw_ad G 114))]) (by simp) ?_
        exact t437 f5 (xs ++ cutD tp (8 + lsS ((mSrc K (nb tp 8 8) (nb tp 16 8)) % 4)) (16 - lsS ((mSrc K (nb tp 8 8) (nb tp 16 8)) % 4))) hf5 (by first | omega | (simp only [List.length_append, List.length_take, be_len, cutD_len, List.length_cons, List.length_nil]; omega)) (by rw [← hx, sqAd_lo htb 8 (by omega) (by omega)]; simp only [List.append_assoc, List.cons_append, List.nil_append])
    have t388 : ∀ (f : Nat → Int32) (xs : List Nat) (_ : LA f xs) (_ : xs.length ≤ 11) (_ : xs ++ ((if sqHL (tp.getD 7 0) = 0 then [tp.getD 7 0] else []) ++ (sqAd (mSrc K (nb tp 8 8) (nb tp 16 8)) (nb tp 8 8) (nb tp 16 8) ++ (sqAd (mGoal K (nb tp 24 8) (nb tp 32 8)) (nb tp 24 8) (nb tp 32 8) ++ (if hasPB tp then sqPo (nb tp 40 2) (nb tp 42 2) (nb tp 46 2) else [])))) = (sqHd K tp)), TW G X (MU S1 120 8 f xs) [(5, .int (bI (hasPB tp))), (6, .int (nI (sqHL (tp.getD 7 0)))), (0, .ref (tw_ad G 114))] 388 [] := by
      intro f xs hf hxl hx
      have hHL := sqHL_lt (tp.getD 7 0)
      refine tw_iload C dX11_squeezeTape_388 1 rfl ?_
      refine tn_if_ne C dX11_squeezeTape_390 (tgt := 404) (by decide) (by omega) (fun c1 => ?_) (fun c1 => ?_)
      · skip
        refine TW.c (L' := [(5, .int (bI (hasPB tp))), (0, .ref (tw_ad G 114))]) (by simp) ?_
        exact t404 f (xs) hf (by first | omega | (simp only [List.length_append, List.length_take, be_len, cutD_len, List.length_cons, List.length_nil]; omega)) (by rw [if_neg (show ¬ sqHL (tp.getD 7 0) = 0 by omega)] at hx; exact hx)
      · skip
        refine tw_aload_n C dX11_squeezeTape_393 2 rfl ?_
        refine tw_aload_n C dX11_squeezeTape_394 2 rfl ?_
        refine tw_getR (q := 118) (k := 3) C dX11_squeezeTape_395 fc_X11 sh_114 (hM 114 (by decide) (by decide)) rfl (by decide) wd_114 ?_
        refine tw_bipush C dX11_squeezeTape_398 (v := nI 7) (by decide) ?_
        refine tw_iald (v := nI (tp.getD 7 0)) C dX11_squeezeTape_400 sn_118 sa_118 (hM 118 (by decide) (by decide)) (by omega) (by decide) (hT1 7 (by omega)) ?_
        refine tw_callV (As := [.int (nI (tp.getD 7 0))]) (rest := []) C N (c_X11_add hM (B := S1) (f := f) (xs := xs) hf (by first | omega | (simp only [List.length_append, List.length_take, be_len, List.length_cons, List.length_nil]; omega)) (b := tp.getD 7 0)) mm_X11_add wd_424 rfl (hM 114 (by decide) (by decide)) sh_114 rfl (by decide) rfl (Nat.le_of_ble_eq_true rfl) dX11_squeezeTape_401 ?_
        rintro _ _ ⟨f2, rfl, hf2⟩
        show TW G X (MU S1 120 8 f2 (xs ++ [(tp.getD 7 0) % 256])) [(5, .int (bI (hasPB tp))), (6, .int (nI (sqHL (tp.getD 7 0)))), (0, .ref (tw_ad G 114))] 404 []
        refine TW.c (L' := [(5, .int (bI (hasPB tp))), (0, .ref (tw_ad G 114))]) (by simp) ?_
        exact t404 f2 (xs ++ [(tp.getD 7 0) % 256]) hf2 (by first | omega | (simp only [List.length_append, List.length_take, be_len, cutD_len, List.length_cons, List.length_nil]; omega)) (by rw [if_pos (show sqHL (tp.getD 7 0) = 0 by omega)] at hx; rw [← hx, Nat.mod_eq_of_lt (gD_lt htb 7)]; simp only [List.append_assoc, List.cons_append, List.nil_append])
    have t372 : ∀ (f : Nat → Int32) (xs : List Nat) (_ : LA f xs) (_ : xs.length ≤ 10) (_ : xs ++ ((if hasPB tp then [] else [tp.getD 6 0]) ++ ((if sqHL (tp.getD 7 0) = 0 then [tp.getD 7 0] else []) ++ (sqAd (mSrc K (nb tp 8 8) (nb tp 16 8)) (nb tp 8 8) (nb tp 16 8) ++ (sqAd (mGoal K (nb tp 24 8) (nb tp 32 8)) (nb tp 24 8) (nb tp 32 8) ++ (if hasPB tp then sqPo (nb tp 40 2) (nb tp 42 2) (nb tp 46 2) else []))))) = (sqHd K tp)), TW G X (MU S1 120 8 f xs) [(5, .int (bI (hasPB tp))), (6, .int (nI (sqHL (tp.getD 7 0)))), (0, .ref (tw_ad G 114))] 372 [] := by
      intro f xs hf hxl hx
      refine tw_iload C dX11_squeezeTape_372 0 rfl ?_
      refine tb_if_ne C dX11_squeezeTape_374 (tgt := 388) (by decide) (fun cp => ?_) (fun cp => ?_)
      · skip
        refine TW.c (L' := [(5, .int (bI (hasPB tp))), (6, .int (nI (sqHL (tp.getD 7 0)))), (0, .ref (tw_ad G 114))]) (by simp) ?_
        exact t388 f (xs) hf (by first | omega | (simp only [List.length_append, List.length_take, be_len, cutD_len, List.length_cons, List.length_nil]; omega)) (by rw [if_pos (show hasPB tp = true from cp)] at hx; exact hx)
      · skip
        refine tw_aload_n C dX11_squeezeTape_377 2 rfl ?_
        refine tw_aload_n C dX11_squeezeTape_378 2 rfl ?_
        refine tw_getR (q := 118) (k := 3) C dX11_squeezeTape_379 fc_X11 sh_114 (hM 114 (by decide) (by decide)) rfl (by decide) wd_114 ?_
        refine tw_bipush C dX11_squeezeTape_382 (v := nI 6) (by decide) ?_
        refine tw_iald (v := nI (tp.getD 6 0)) C dX11_squeezeTape_384 sn_118 sa_118 (hM 118 (by decide) (by decide)) (by omega) (by decide) (hT1 6 (by omega)) ?_
        refine tw_callV (As := [.int (nI (tp.getD 6 0))]) (rest := []) C N (c_X11_add hM (B := S1) (f := f) (xs := xs) hf (by first | omega | (simp only [List.length_append, List.length_take, be_len, List.length_cons, List.length_nil]; omega)) (b := tp.getD 6 0)) mm_X11_add wd_424 rfl (hM 114 (by decide) (by decide)) sh_114 rfl (by decide) rfl (Nat.le_of_ble_eq_true rfl) dX11_squeezeTape_385 ?_
        rintro _ _ ⟨f1, rfl, hf1⟩
        show TW G X (MU S1 120 8 f1 (xs ++ [(tp.getD 6 0) % 256])) [(5, .int (bI (hasPB tp))), (6, .int (nI (sqHL (tp.getD 7 0)))), (0, .ref (tw_ad G 114))] 388 []
        refine TW.c (L' := [(5, .int (bI (hasPB tp))), (6, .int (nI (sqHL (tp.getD 7 0)))), (0, .ref (tw_ad G 114))]) (by simp) ?_
        exact t388 f1 (xs ++ [(tp.getD 6 0) % 256]) hf1 (by first | omega | (simp only [List.length_append, List.length_take, be_len, cutD_len, List.length_cons, List.length_nil]; omega)) (by rw [if_neg (show ¬ hasPB tp = true by rw [cp]; decide)] at hx; rw [← hx, Nat.mod_eq_of_lt (gD_lt htb 6)]; simp only [List.append_assoc, List.cons_append, List.nil_append])
    have t307 : ∀ (f : Nat → Int32) (xs : List Nat) (_ : LA f xs) (_ : xs.length ≤ 4) (_ : xs ++ (sqTr (sqTF (pkT tp) (pkL tp)) (pkT tp) (pkL tp) ++ ((if hasPB tp then [] else [tp.getD 6 0]) ++ ((if sqHL (tp.getD 7 0) = 0 then [tp.getD 7 0] else []) ++ (sqAd (mSrc K (nb tp 8 8) (nb tp 16 8)) (nb tp 8 8) (nb tp 16 8) ++ (sqAd (mGoal K (nb tp 24 8) (nb tp 32 8)) (nb tp 24 8) (nb tp 32 8) ++ (if hasPB tp then sqPo (nb tp 40 2) (nb tp 42 2) (nb tp 46 2) else [])))))) = (sqHd K tp)), TW G X (MU S1 120 8 f xs) [(1, .int (nI (pkT tp))), (2, .int (nI (pkL tp))), (3, .int (nI (sqTF (pkT tp) (pkL tp)))), (5, .int (bI (hasPB tp))), (6, .int (nI (sqHL (tp.getD 7 0)))), (0, .ref (tw_ad G 114))] 307 [] := by
      intro f xs hf hxl hx
      have hT4 : pkT tp < 256 := Nat.mod_lt _ (by decide)
      have hL4 : pkL tp < 1048576 := Nat.mod_lt _ (by decide)
      have hTF : sqTF (pkT tp) (pkL tp) = 0 ∨ sqTF (pkT tp) (pkL tp) = 1 ∨ sqTF (pkT tp) (pkL tp) = 2 ∨ sqTF (pkT tp) (pkL tp) = 3 := by have := sqTF_lt (pkT tp) (pkL tp); omega
      have hT1_ : sqTF (pkT tp) (pkL tp) = 1 → pkT tp / 4 = 0 := by unfold sqTF; (repeat' split) <;> omega
      rcases hTF with htf | htf | htf | htf
      · have e := sqTr_0 (l := pkL tp) hT4
        refine TW.c (L' := [(1, .int (nI (pkT tp))), (2, .int (nI (pkL tp))), (3, .int (nI 0)), (5, .int (bI (hasPB tp))), (6, .int (nI (sqHL (tp.getD 7 0)))), (0, .ref (tw_ad G 114))]) (by rw [htf]; simp) ?_
        refine tw_bipush C dX11_squeezeTape_307 (v := nI 64) (by decide) ?_
        refine tw_iload_n C dX11_squeezeTape_309 0 rfl ?_
        refine tw_iconst C dX11_squeezeTape_310 (v := nI 3) (by decide) ?_
        refine tw_iand C dX11_squeezeTape_311 (v := nI ((pkT tp) % 4)) (nI_andm 2 (by decide)) ?_
        refine tw_imul C dX11_squeezeTape_312 (v := nI (64 * ((pkT tp) % 4))) (pk_mul _ _) ?_
        refine tw_iload_n C dX11_squeezeTape_313 2 rfl ?_
        refine tw_iconst C dX11_squeezeTape_314 (v := nI 1) (by decide) ?_
        refine tn_icmp_ne C dX11_squeezeTape_315 (tgt := 325) (by decide) (by omega) (by omega) (fun c1 => ?_) (fun c1 => ?_)
        · skip
          refine tw_iload_n C dX11_squeezeTape_325 0 rfl ?_
          refine tw_iconst C dX11_squeezeTape_326 (v := nI 2) (by decide) ?_
          refine tw_ishr C dX11_squeezeTape_327 (v := nI ((pkT tp) / 4)) (nI_shr (by omega) 2 (by decide)) ?_
          refine tw_iadd C dX11_squeezeTape_328 (v := nI ((64 * ((pkT tp) % 4)) + ((pkT tp) / 4))) (nI_add _ _) ?_
          refine tw_istore (L' := [(8, .int (nI ((64 * ((pkT tp) % 4)) + ((pkT tp) / 4)))), (1, .int (nI (pkT tp))), (2, .int (nI (pkL tp))), (3, .int (nI 0)), (5, .int (bI (hasPB tp))), (6, .int (nI (sqHL (tp.getD 7 0)))), (0, .ref (tw_ad G 114))]) C N dX11_squeezeTape_329 (i := 8) (by decide) rfl ?_
          refine tw_iload_n C dX11_squeezeTape_331 3 rfl ?_
          refine tw_iconst C dX11_squeezeTape_332 (v := nI 3) (by decide) ?_
          refine tn_icmp_ge C dX11_squeezeTape_333 (tgt := 342) (by decide) (by omega) (by omega) (fun c2 => ?_) (fun c2 => ?_)
          · exact absurd c2 (by decide)
          refine tw_aload_n C dX11_squeezeTape_336 6 rfl ?_
          refine tw_iload C dX11_squeezeTape_337 0 rfl ?_
          refine tw_callV (As := [.int (nI ((64 * ((pkT tp) % 4)) + ((pkT tp) / 4)))]) (rest := []) C N (c_X11_add hM (B := S1) (f := f) (xs := xs) hf (by first | omega | (simp only [List.length_append, List.length_take, be_len, List.length_cons, List.length_nil]; omega)) (b := (64 * ((pkT tp) % 4)) + ((pkT tp) / 4))) mm_X11_add wd_424 rfl (hM 114 (by decide) (by decide)) sh_114 rfl (by decide) rfl (Nat.le_of_ble_eq_true rfl) dX11_squeezeTape_339 ?_
          rintro _ _ ⟨f3, rfl, hf3⟩
          show TW G X (MU S1 120 8 f3 (xs ++ [((64 * ((pkT tp) % 4)) + ((pkT tp) / 4)) % 256])) [(8, .int (nI ((64 * ((pkT tp) % 4)) + ((pkT tp) / 4)))), (1, .int (nI (pkT tp))), (2, .int (nI (pkL tp))), (3, .int (nI 0)), (5, .int (bI (hasPB tp))), (6, .int (nI (sqHL (tp.getD 7 0)))), (0, .ref (tw_ad G 114))] 342 []
          refine tw_iload_n C dX11_squeezeTape_342 3 rfl ?_
          refine tn_if_ne C dX11_squeezeTape_343 (tgt := 354) (by decide) (by omega) (fun c5 => ?_) (fun c5 => ?_)
          · exact absurd c5 (by decide)
          refine tw_aload_n C dX11_squeezeTape_346 6 rfl ?_
          refine tw_iload_n C dX11_squeezeTape_347 2 rfl ?_
          refine tw_bipush C dX11_squeezeTape_348 (v := nI 16) (by decide) ?_
          refine tw_ishr C dX11_squeezeTape_350 (v := nI ((pkL tp) / 65536)) (nI_shr (by omega) 16 (by decide)) ?_
          refine tw_callV (As := [.int (nI ((pkL tp) / 65536))]) (rest := []) C N (c_X11_add hM (B := S1) (f := f3) (xs := xs ++ [((64 * ((pkT tp) % 4)) + ((pkT tp) / 4)) % 256]) hf3 (by first | omega | (simp only [List.length_append, List.length_take, be_len, List.length_cons, List.length_nil]; omega)) (b := (pkL tp) / 65536)) mm_X11_add wd_424 rfl (hM 114 (by decide) (by decide)) sh_114 rfl (by decide) rfl (Nat.le_of_ble_eq_true rfl) dX11_squeezeTape_351 ?_
          rintro _ _ ⟨f6, rfl, hf6⟩
          show TW G X (MU S1 120 8 f6 ((xs ++ [((64 * ((pkT tp) % 4)) + ((pkT tp) / 4)) % 256]) ++ [((pkL tp) / 65536) % 256])) [(8, .int (nI ((64 * ((pkT tp) % 4)) + ((pkT tp) / 4)))), (1, .int (nI (pkT tp))), (2, .int (nI (pkL tp))), (3, .int (nI 0)), (5, .int (bI (hasPB tp))), (6, .int (nI (sqHL (tp.getD 7 0)))), (0, .ref (tw_ad G 114))] 354 []
          refine tw_iload_n C dX11_squeezeTape_354 3 rfl ?_
          refine tw_iconst C dX11_squeezeTape_355 (v := nI 2) (by decide) ?_
          refine tn_icmp_ge C dX11_squeezeTape_356 (tgt := 372) (by decide) (by omega) (by omega) (fun c8 => ?_) (fun c8 => ?_)
          · exact absurd c8 (by decide)
          refine tw_aload_n C dX11_squeezeTape_359 6 rfl ?_
          refine tw_iload_n C dX11_squeezeTape_360 2 rfl ?_
          refine tw_bipush C dX11_squeezeTape_361 (v := nI 8) (by decide) ?_
          refine tw_ishr C dX11_squeezeTape_363 (v := nI ((pkL tp) / 256)) (nI_shr (by omega) 8 (by decide)) ?_
          refine tw_callV (As := [.int (nI ((pkL tp) / 256))]) (rest := []) C N (c_X11_add hM (B := S1) (f := f6) (xs := (xs ++ [((64 * ((pkT tp) % 4)) + ((pkT tp) / 4)) % 256]) ++ [((pkL tp) / 65536) % 256]) hf6 (by first | omega | (simp only [List.length_append, List.length_take, be_len, List.length_cons, List.length_nil]; omega)) (b := (pkL tp) / 256)) mm_X11_add wd_424 rfl (hM 114 (by decide) (by decide)) sh_114 rfl (by decide) rfl (Nat.le_of_ble_eq_true rfl) dX11_squeezeTape_364 ?_
          rintro _ _ ⟨f9, rfl, hf9⟩
          show TW G X (MU S1 120 8 f9 (((xs ++ [((64 * ((pkT tp) % 4)) + ((pkT tp) / 4)) % 256]) ++ [((pkL tp) / 65536) % 256]) ++ [((pkL tp) / 256) % 256])) [(8, .int (nI ((64 * ((pkT tp) % 4)) + ((pkT tp) / 4)))), (1, .int (nI (pkT tp))), (2, .int (nI (pkL tp))), (3, .int (nI 0)), (5, .int (bI (hasPB tp))), (6, .int (nI (sqHL (tp.getD 7 0)))), (0, .ref (tw_ad G 114))] 367 []
          refine tw_aload_n C dX11_squeezeTape_367 6 rfl ?_
          refine tw_iload_n C dX11_squeezeTape_368 2 rfl ?_
          refine tw_callV (As := [.int (nI (pkL tp))]) (rest := []) C N (c_X11_add hM (B := S1) (f := f9) (xs := ((xs ++ [((64 * ((pkT tp) % 4)) + ((pkT tp) / 4)) % 256]) ++ [((pkL tp) / 65536) % 256]) ++ [((pkL tp) / 256) % 256]) hf9 (by first | omega | (simp only [List.length_append, List.length_take, be_len, List.length_cons, List.length_nil]; omega)) (b := pkL tp)) mm_X11_add wd_424 rfl (hM 114 (by decide) (by decide)) sh_114 rfl (by decide) rfl (Nat.le_of_ble_eq_true rfl) dX11_squeezeTape_369 ?_
          rintro _ _ ⟨f11, rfl, hf11⟩
          show TW G X (MU S1 120 8 f11 ((((xs ++ [((64 * ((pkT tp) % 4)) + ((pkT tp) / 4)) % 256]) ++ [((pkL tp) / 65536) % 256]) ++ [((pkL tp) / 256) % 256]) ++ [(pkL tp) % 256])) [(8, .int (nI ((64 * ((pkT tp) % 4)) + ((pkT tp) / 4)))), (1, .int (nI (pkT tp))), (2, .int (nI (pkL tp))), (3, .int (nI 0)), (5, .int (bI (hasPB tp))), (6, .int (nI (sqHL (tp.getD 7 0)))), (0, .ref (tw_ad G 114))] 372 []
          refine TW.c (L' := [(5, .int (bI (hasPB tp))), (6, .int (nI (sqHL (tp.getD 7 0)))), (0, .ref (tw_ad G 114))]) (by simp) ?_
          exact t372 f11 ((((xs ++ [((64 * ((pkT tp) % 4)) + ((pkT tp) / 4)) % 256]) ++ [((pkL tp) / 65536) % 256]) ++ [((pkL tp) / 256) % 256]) ++ [(pkL tp) % 256]) hf11 (by first | omega | (simp only [List.length_append, List.length_take, be_len, cutD_len, List.length_cons, List.length_nil]; omega)) (by rw [← hx, htf, e]; simp only [List.append_assoc, List.cons_append, List.nil_append])
        · exact absurd c1 (by decide)
      · have e := sqTr_1 (l := pkL tp) (hT1_ htf)
        refine TW.c (L' := [(1, .int (nI (pkT tp))), (2, .int (nI (pkL tp))), (3, .int (nI 1)), (5, .int (bI (hasPB tp))), (6, .int (nI (sqHL (tp.getD 7 0)))), (0, .ref (tw_ad G 114))]) (by rw [htf]; simp) ?_
        refine tw_bipush C dX11_squeezeTape_307 (v := nI 64) (by decide) ?_
        refine tw_iload_n C dX11_squeezeTape_309 0 rfl ?_
        refine tw_iconst C dX11_squeezeTape_310 (v := nI 3) (by decide) ?_
        refine tw_iand C dX11_squeezeTape_311 (v := nI ((pkT tp) % 4)) (nI_andm 2 (by decide)) ?_
        refine tw_imul C dX11_squeezeTape_312 (v := nI (64 * ((pkT tp) % 4))) (pk_mul _ _) ?_
        refine tw_iload_n C dX11_squeezeTape_313 2 rfl ?_
        refine tw_iconst C dX11_squeezeTape_314 (v := nI 1) (by decide) ?_
        refine tn_icmp_ne C dX11_squeezeTape_315 (tgt := 325) (by decide) (by omega) (by omega) (fun c13 => ?_) (fun c13 => ?_)
        · exact absurd c13 (by decide)
        refine tw_iload_n C dX11_squeezeTape_318 1 rfl ?_
        refine tw_bipush C dX11_squeezeTape_319 (v := nI 16) (by decide) ?_
        refine tw_ishr C dX11_squeezeTape_321 (v := nI ((pkL tp) / 65536)) (nI_shr (by omega) 16 (by decide)) ?_
        refine tw_goto C dX11_squeezeTape_322 (tgt := 328) (by decide) ?_
        refine tw_iadd C dX11_squeezeTape_328 (v := nI ((64 * ((pkT tp) % 4)) + ((pkL tp) / 65536))) (nI_add _ _) ?_
        refine tw_istore (L' := [(8, .int (nI ((64 * ((pkT tp) % 4)) + ((pkL tp) / 65536)))), (1, .int (nI (pkT tp))), (2, .int (nI (pkL tp))), (3, .int (nI 1)), (5, .int (bI (hasPB tp))), (6, .int (nI (sqHL (tp.getD 7 0)))), (0, .ref (tw_ad G 114))]) C N dX11_squeezeTape_329 (i := 8) (by decide) rfl ?_
        refine tw_iload_n C dX11_squeezeTape_331 3 rfl ?_
        refine tw_iconst C dX11_squeezeTape_332 (v := nI 3) (by decide) ?_
        refine tn_icmp_ge C dX11_squeezeTape_333 (tgt := 342) (by decide) (by omega) (by omega) (fun c14 => ?_) (fun c14 => ?_)
        · exact absurd c14 (by decide)
        refine tw_aload_n C dX11_squeezeTape_336 6 rfl ?_
        refine tw_iload C dX11_squeezeTape_337 0 rfl ?_
        refine tw_callV (As := [.int (nI ((64 * ((pkT tp) % 4)) + ((pkL tp) / 65536)))]) (rest := []) C N (c_X11_add hM (B := S1) (f := f) (xs := xs) hf (by first | omega | (simp only [List.length_append, List.length_take, be_len, List.length_cons, List.length_nil]; omega)) (b := (64 * ((pkT tp) % 4)) + ((pkL tp) / 65536))) mm_X11_add wd_424 rfl (hM 114 (by decide) (by decide)) sh_114 rfl (by decide) rfl (Nat.le_of_ble_eq_true rfl) dX11_squeezeTape_339 ?_
        rintro _ _ ⟨f15, rfl, hf15⟩
        show TW G X (MU S1 120 8 f15 (xs ++ [((64 * ((pkT tp) % 4)) + ((pkL tp) / 65536)) % 256])) [(8, .int (nI ((64 * ((pkT tp) % 4)) + ((pkL tp) / 65536)))), (1, .int (nI (pkT tp))), (2, .int (nI (pkL tp))), (3, .int (nI 1)), (5, .int (bI (hasPB tp))), (6, .int (nI (sqHL (tp.getD 7 0)))), (0, .ref (tw_ad G 114))] 342 []
        refine tw_iload_n C dX11_squeezeTape_342 3 rfl ?_
        refine tn_if_ne C dX11_squeezeTape_343 (tgt := 354) (by decide) (by omega) (fun c17 => ?_) (fun c17 => ?_)
        · skip
          refine tw_iload_n C dX11_squeezeTape_354 3 rfl ?_
          refine tw_iconst C dX11_squeezeTape_355 (v := nI 2) (by decide) ?_
          refine tn_icmp_ge C dX11_squeezeTape_356 (tgt := 372) (by decide) (by omega) (by omega) (fun c18 => ?_) (fun c18 => ?_)
          · exact absurd c18 (by decide)
          refine tw_aload_n C dX11_squeezeTape_359 6 rfl ?_
          refine tw_iload_n C dX11_squeezeTape_360 2 rfl ?_
          refine tw_bipush C dX11_squeezeTape_361 (v := nI 8) (by decide) ?_
          refine tw_ishr C dX11_squeezeTape_363 (v := nI ((pkL tp) / 256)) (nI_shr (by omega) 8 (by decide)) ?_
          refine tw_callV (As := [.int (nI ((pkL tp) / 256))]) (rest := []) C N (c_X11_add hM (B := S1) (f := f15) (xs := xs ++ [((64 * ((pkT tp) % 4)) + ((pkL tp) / 65536)) % 256]) hf15 (by first | omega | (simp only [List.length_append, List.length_take, be_len, List.length_cons, List.length_nil]; omega)) (b := (pkL tp) / 256)) mm_X11_add wd_424 rfl (hM 114 (by decide) (by decide)) sh_114 rfl (by decide) rfl (Nat.le_of_ble_eq_true rfl) dX11_squeezeTape_364 ?_
          rintro _ _ ⟨f19, rfl, hf19⟩
          show TW G X (MU S1 120 8 f19 ((xs ++ [((64 * ((pkT tp) % 4)) + ((pkL tp) / 65536)) % 256]) ++ [((pkL tp) / 256) % 256])) [(8, .int (nI ((64 * ((pkT tp) % 4)) + ((pkL tp) / 65536)))), (1, .int (nI (pkT tp))), (2, .int (nI (pkL tp))), (3, .int (nI 1)), (5, .int (bI (hasPB tp))), (6, .int (nI (sqHL (tp.getD 7 0)))), (0, .ref (tw_ad G 114))] 367 []
          refine tw_aload_n C dX11_squeezeTape_367 6 rfl ?_
          refine tw_iload_n C dX11_squeezeTape_368 2 rfl ?_
          refine tw_callV (As := [.int (nI (pkL tp))]) (rest := []) C N (c_X11_add hM (B := S1) (f := f19) (xs := (xs ++ [((64 * ((pkT tp) % 4)) + ((pkL tp) / 65536)) % 256]) ++ [((pkL tp) / 256) % 256]) hf19 (by first | omega | (simp only [List.length_append, List.length_take, be_len, List.length_cons, List.length_nil]; omega)) (b := pkL tp)) mm_X11_add wd_424 rfl (hM 114 (by decide) (by decide)) sh_114 rfl (by decide) rfl (Nat.le_of_ble_eq_true rfl) dX11_squeezeTape_369 ?_
          rintro _ _ ⟨f21, rfl, hf21⟩
          show TW G X (MU S1 120 8 f21 (((xs ++ [((64 * ((pkT tp) % 4)) + ((pkL tp) / 65536)) % 256]) ++ [((pkL tp) / 256) % 256]) ++ [(pkL tp) % 256])) [(8, .int (nI ((64 * ((pkT tp) % 4)) + ((pkL tp) / 65536)))), (1, .int (nI (pkT tp))), (2, .int (nI (pkL tp))), (3, .int (nI 1)), (5, .int (bI (hasPB tp))), (6, .int (nI (sqHL (tp.getD 7 0)))), (0, .ref (tw_ad G 114))] 372 []
          refine TW.c (L' := [(5, .int (bI (hasPB tp))), (6, .int (nI (sqHL (tp.getD 7 0)))), (0, .ref (tw_ad G 114))]) (by simp) ?_
          exact t372 f21 (((xs ++ [((64 * ((pkT tp) % 4)) + ((pkL tp) / 65536)) % 256]) ++ [((pkL tp) / 256) % 256]) ++ [(pkL tp) % 256]) hf21 (by first | omega | (simp only [List.length_append, List.length_take, be_len, cutD_len, List.length_cons, List.length_nil]; omega)) (by rw [← hx, htf, e]; simp only [List.append_assoc, List.cons_append, List.nil_append])
        · exact absurd c17 (by decide)
      · have e := sqTr_2 (l := pkL tp) hT4
        refine TW.c (L' := [(1, .int (nI (pkT tp))), (2, .int (nI (pkL tp))), (3, .int (nI 2)), (5, .int (bI (hasPB tp))), (6, .int (nI (sqHL (tp.getD 7 0)))), (0, .ref (tw_ad G 114))]) (by rw [htf]; simp) ?_
        refine tw_bipush C dX11_squeezeTape_307 (v := nI 64) (by decide) ?_
        refine tw_iload_n C dX11_squeezeTape_309 0 rfl ?_
        refine tw_iconst C dX11_squeezeTape_310 (v := nI 3) (by decide) ?_
        refine tw_iand C dX11_squeezeTape_311 (v := nI ((pkT tp) % 4)) (nI_andm 2 (by decide)) ?_
        refine tw_imul C dX11_squeezeTape_312 (v := nI (64 * ((pkT tp) % 4))) (pk_mul _ _) ?_
        refine tw_iload_n C dX11_squeezeTape_313 2 rfl ?_
        refine tw_iconst C dX11_squeezeTape_314 (v := nI 1) (by decide) ?_
        refine tn_icmp_ne C dX11_squeezeTape_315 (tgt := 325) (by decide) (by omega) (by omega) (fun c23 => ?_) (fun c23 => ?_)
        · skip
          refine tw_iload_n C dX11_squeezeTape_325 0 rfl ?_
          refine tw_iconst C dX11_squeezeTape_326 (v := nI 2) (by decide) ?_
          refine tw_ishr C dX11_squeezeTape_327 (v := nI ((pkT tp) / 4)) (nI_shr (by omega) 2 (by decide)) ?_
          refine tw_iadd C dX11_squeezeTape_328 (v := nI ((64 * ((pkT tp) % 4)) + ((pkT tp) / 4))) (nI_add _ _) ?_
          refine tw_istore (L' := [(8, .int (nI ((64 * ((pkT tp) % 4)) + ((pkT tp) / 4)))), (1, .int (nI (pkT tp))), (2, .int (nI (pkL tp))), (3, .int (nI 2)), (5, .int (bI (hasPB tp))), (6, .int (nI (sqHL (tp.getD 7 0)))), (0, .ref (tw_ad G 114))]) C N dX11_squeezeTape_329 (i := 8) (by decide) rfl ?_
          refine tw_iload_n C dX11_squeezeTape_331 3 rfl ?_
          refine tw_iconst C dX11_squeezeTape_332 (v := nI 3) (by decide) ?_
          refine tn_icmp_ge C dX11_squeezeTape_333 (tgt := 342) (by decide) (by omega) (by omega) (fun c24 => ?_) (fun c24 => ?_)
          · exact absurd c24 (by decide)
          refine tw_aload_n C dX11_squeezeTape_336 6 rfl ?_
          refine tw_iload C dX11_squeezeTape_337 0 rfl ?_
          refine tw_callV (As := [.int (nI ((64 * ((pkT tp) % 4)) + ((pkT tp) / 4)))]) (rest := []) C N (c_X11_add hM (B := S1) (f := f) (xs := xs) hf (by first | omega | (simp only [List.length_append, List.length_take, be_len, List.length_cons, List.length_nil]; omega)) (b := (64 * ((pkT tp) % 4)) + ((pkT tp) / 4))) mm_X11_add wd_424 rfl (hM 114 (by decide) (by decide)) sh_114 rfl (by decide) rfl (Nat.le_of_ble_eq_true rfl) dX11_squeezeTape_339 ?_
          rintro _ _ ⟨f25, rfl, hf25⟩
          show TW G X (MU S1 120 8 f25 (xs ++ [((64 * ((pkT tp) % 4)) + ((pkT tp) / 4)) % 256])) [(8, .int (nI ((64 * ((pkT tp) % 4)) + ((pkT tp) / 4)))), (1, .int (nI (pkT tp))), (2, .int (nI (pkL tp))), (3, .int (nI 2)), (5, .int (bI (hasPB tp))), (6, .int (nI (sqHL (tp.getD 7 0)))), (0, .ref (tw_ad G 114))] 342 []
          refine tw_iload_n C dX11_squeezeTape_342 3 rfl ?_
          refine tn_if_ne C dX11_squeezeTape_343 (tgt := 354) (by decide) (by omega) (fun c27 => ?_) (fun c27 => ?_)
          · skip
            refine tw_iload_n C dX11_squeezeTape_354 3 rfl ?_
            refine tw_iconst C dX11_squeezeTape_355 (v := nI 2) (by decide) ?_
            refine tn_icmp_ge C dX11_squeezeTape_356 (tgt := 372) (by decide) (by omega) (by omega) (fun c28 => ?_) (fun c28 => ?_)
            · skip
              refine TW.c (L' := [(5, .int (bI (hasPB tp))), (6, .int (nI (sqHL (tp.getD 7 0)))), (0, .ref (tw_ad G 114))]) (by simp) ?_
              exact t372 f25 (xs ++ [((64 * ((pkT tp) % 4)) + ((pkT tp) / 4)) % 256]) hf25 (by first | omega | (simp only [List.length_append, List.length_take, be_len, cutD_len, List.length_cons, List.length_nil]; omega)) (by rw [← hx, htf, e]; simp only [List.append_assoc, List.cons_append, List.nil_append])
            · exact absurd c28 (by decide)
          · exact absurd c27 (by decide)
        · exact absurd c23 (by decide)
      · have e : sqTr 3 (pkT tp) (pkL tp) = [] := rfl
        refine TW.c (L' := [(1, .int (nI (pkT tp))), (2, .int (nI (pkL tp))), (3, .int (nI 3)), (5, .int (bI (hasPB tp))), (6, .int (nI (sqHL (tp.getD 7 0)))), (0, .ref (tw_ad G 114))]) (by rw [htf]; simp) ?_
        refine tw_bipush C dX11_squeezeTape_307 (v := nI 64) (by decide) ?_
        refine tw_iload_n C dX11_squeezeTape_309 0 rfl ?_
        refine tw_iconst C dX11_squeezeTape_310 (v := nI 3) (by decide) ?_
        refine tw_iand C dX11_squeezeTape_311 (v := nI ((pkT tp) % 4)) (nI_andm 2 (by decide)) ?_
        refine tw_imul C dX11_squeezeTape_312 (v := nI (64 * ((pkT tp) % 4))) (pk_mul _ _) ?_
        refine tw_iload_n C dX11_squeezeTape_313 2 rfl ?_
        refine tw_iconst C dX11_squeezeTape_314 (v := nI 1) (by decide) ?_
        refine tn_icmp_ne C dX11_squeezeTape_315 (tgt := 325) (by decide) (by omega) (by omega) (fun c29 => ?_) (fun c29 => ?_)
        · skip
          refine tw_iload_n C dX11_squeezeTape_325 0 rfl ?_
          refine tw_iconst C dX11_squeezeTape_326 (v := nI 2) (by decide) ?_
          refine tw_ishr C dX11_squeezeTape_327 (v := nI ((pkT tp) / 4)) (nI_shr (by omega) 2 (by decide)) ?_
          refine tw_iadd C dX11_squeezeTape_328 (v := nI ((64 * ((pkT tp) % 4)) + ((pkT tp) / 4))) (nI_add _ _) ?_
          refine tw_istore (L' := [(8, .int (nI ((64 * ((pkT tp) % 4)) + ((pkT tp) / 4)))), (1, .int (nI (pkT tp))), (2, .int (nI (pkL tp))), (3, .int (nI 3)), (5, .int (bI (hasPB tp))), (6, .int (nI (sqHL (tp.getD 7 0)))), (0, .ref (tw_ad G 114))]) C N dX11_squeezeTape_329 (i := 8) (by decide) rfl ?_
          refine tw_iload_n C dX11_squeezeTape_331 3 rfl ?_
          refine tw_iconst C dX11_squeezeTape_332 (v := nI 3) (by decide) ?_
          refine tn_icmp_ge C dX11_squeezeTape_333 (tgt := 342) (by decide) (by omega) (by omega) (fun c30 => ?_) (fun c30 => ?_)
          · skip
            refine tw_iload_n C dX11_squeezeTape_342 3 rfl ?_
            refine tn_if_ne C dX11_squeezeTape_343 (tgt := 354) (by decide) (by omega) (fun c31 => ?_) (fun c31 => ?_)
            · skip
              refine tw_iload_n C dX11_squeezeTape_354 3 rfl ?_
              refine tw_iconst C dX11_squeezeTape_355 (v := nI 2) (by decide) ?_
              refine tn_icmp_ge C dX11_squeezeTape_356 (tgt := 372) (by decide) (by omega) (by omega) (fun c32 => ?_) (fun c32 => ?_)
              · skip
                refine TW.c (L' := [(5, .int (bI (hasPB tp))), (6, .int (nI (sqHL (tp.getD 7 0)))), (0, .ref (tw_ad G 114))]) (by simp) ?_
                exact t372 f (xs) hf (by first | omega | (simp only [List.length_append, List.length_take, be_len, cutD_len, List.length_cons, List.length_nil]; omega)) (by rw [← hx, htf, e]; simp only [List.append_assoc, List.cons_append, List.nil_append])
              · exact absurd c32 (by decide)
            · exact absurd c31 (by decide)
          · exact absurd c30 (by decide)
        · exact absurd c29 (by decide)
    have t285 : ∀ (c : Nat) (_ : c = 0 ∧ (16 * ctxN K (mSrc K (nb tp 8 8) (nb tp 16 8)) (nb tp 8 8) + ctxN K (mGoal K (nb tp 24 8) (nb tp 32 8)) (nb tp 24 8)) = 0 ∨ c = 1 ∧ (16 * ctxN K (mSrc K (nb tp 8 8) (nb tp 16 8)) (nb tp 8 8) + ctxN K (mGoal K (nb tp 24 8) (nb tp 32 8)) (nb tp 24 8)) ≠ 0) (f : Nat → Int32) (xs : List Nat) (_ : LA f xs) (_ : xs.length ≤ 3) (_ : xs ++ ((if (16 * ctxN K (mSrc K (nb tp 8 8) (nb tp 16 8)) (nb tp 8 8) + ctxN K (mGoal K (nb tp 24 8) (nb tp 32 8)) (nb tp 24 8)) = 0 then [] else [(16 * ctxN K (mSrc K (nb tp 8 8) (nb tp 16 8)) (nb tp 8 8) + ctxN K (mGoal K (nb tp 24 8) (nb tp 32 8)) (nb tp 24 8))]) ++ (sqTr (sqTF (pkT tp) (pkL tp)) (pkT tp) (pkL tp) ++ ((if hasPB tp then [] else [tp.getD 6 0]) ++ ((if sqHL (tp.getD 7 0) = 0 then [tp.getD 7 0] else []) ++ (sqAd (mSrc K (nb tp 8 8) (nb tp 16 8)) (nb tp 8 8) (nb tp 16 8) ++ (sqAd (mGoal K (nb tp 24 8) (nb tp 32 8)) (nb tp 24 8) (nb tp 32 8) ++ (if hasPB tp then sqPo (nb tp 40 2) (nb tp 42 2) (nb tp 46 2) else []))))))) = (sqHd K tp)), TW G X (MU S1 120 8 f xs) [(1, .int (nI (pkT tp))), (2, .int (nI (pkL tp))), (3, .int (nI (sqTF (pkT tp) (pkL tp)))), (5, .int (bI (hasPB tp))), (6, .int (nI (sqHL (tp.getD 7 0)))), (7, .int (nI c)), (0, .ref (tw_ad G 114))] 285 [] := by
      intro c hc f xs hf hxl hx
      have k1 := ctxN_lt K (mSrc K (nb tp 8 8) (nb tp 16 8)) (nb tp 8 8)
      have k2 := ctxN_lt K (mGoal K (nb tp 24 8) (nb tp 32 8)) (nb tp 24 8)
      refine tw_iload C dX11_squeezeTape_285 5 rfl ?_
      refine tw_iconst C dX11_squeezeTape_287 (v := nI 1) (by decide) ?_
      refine tn_icmp_ne C dX11_squeezeTape_288 (tgt := 307) (by decide) (by omega) (by omega) (fun c1 => ?_) (fun c1 => ?_)
      · skip
        refine TW.c (L' := [(1, .int (nI (pkT tp))), (2, .int (nI (pkL tp))), (3, .int (nI (sqTF (pkT tp) (pkL tp)))), (5, .int (bI (hasPB tp))), (6, .int (nI (sqHL (tp.getD 7 0)))), (0, .ref (tw_ad G 114))]) (by simp) ?_
        exact t307 f (xs) hf (by first | omega | (simp only [List.length_append, List.length_take, be_len, cutD_len, List.length_cons, List.length_nil]; omega)) (by rw [if_pos (show (16 * ctxN K (mSrc K (nb tp 8 8) (nb tp 16 8)) (nb tp 8 8) + ctxN K (mGoal K (nb tp 24 8) (nb tp 32 8)) (nb tp 24 8)) = 0 by omega)] at hx; exact hx)
      · skip
        refine tw_aload_n C dX11_squeezeTape_291 6 rfl ?_
        refine tw_bipush C dX11_squeezeTape_292 (v := nI 16) (by decide) ?_
        refine tw_aload_n C dX11_squeezeTape_294 6 rfl ?_
        refine tw_getI (v := nI (ctxN K (mSrc K (nb tp 8 8) (nb tp 16 8)) (nb tp 8 8))) (k := 13) C dX11_squeezeTape_295 fc_X11 sh_114 (hM 114 (by decide) (by decide)) rfl (by decide) wd_391 h13 ?_
        refine tw_imul C dX11_squeezeTape_298 (v := nI (16 * (ctxN K (mSrc K (nb tp 8 8) (nb tp 16 8)) (nb tp 8 8)))) (pk_mul _ _) ?_
        refine tw_aload_n C dX11_squeezeTape_299 6 rfl ?_
        refine tw_getI (v := nI (ctxN K (mGoal K (nb tp 24 8) (nb tp 32 8)) (nb tp 24 8))) (k := 17) C dX11_squeezeTape_300 fc_X11 sh_114 (hM 114 (by decide) (by decide)) rfl (by decide) wd_392 h17 ?_
        refine tw_iadd C dX11_squeezeTape_303 (v := nI ((16 * (ctxN K (mSrc K (nb tp 8 8) (nb tp 16 8)) (nb tp 8 8))) + (ctxN K (mGoal K (nb tp 24 8) (nb tp 32 8)) (nb tp 24 8)))) (nI_add _ _) ?_
        refine tw_callV (As := [.int (nI ((16 * (ctxN K (mSrc K (nb tp 8 8) (nb tp 16 8)) (nb tp 8 8))) + (ctxN K (mGoal K (nb tp 24 8) (nb tp 32 8)) (nb tp 24 8))))]) (rest := []) C N (c_X11_add hM (B := S1) (f := f) (xs := xs) hf (by first | omega | (simp only [List.length_append, List.length_take, be_len, List.length_cons, List.length_nil]; omega)) (b := (16 * (ctxN K (mSrc K (nb tp 8 8) (nb tp 16 8)) (nb tp 8 8))) + (ctxN K (mGoal K (nb tp 24 8) (nb tp 32 8)) (nb tp 24 8)))) mm_X11_add wd_424 rfl (hM 114 (by decide) (by decide)) sh_114 rfl (by decide) rfl (Nat.le_of_ble_eq_true rfl) dX11_squeezeTape_304 ?_
        rintro _ _ ⟨f2, rfl, hf2⟩
        show TW G X (MU S1 120 8 f2 (xs ++ [((16 * (ctxN K (mSrc K (nb tp 8 8) (nb tp 16 8)) (nb tp 8 8))) + (ctxN K (mGoal K (nb tp 24 8) (nb tp 32 8)) (nb tp 24 8))) % 256])) [(1, .int (nI (pkT tp))), (2, .int (nI (pkL tp))), (3, .int (nI (sqTF (pkT tp) (pkL tp)))), (5, .int (bI (hasPB tp))), (6, .int (nI (sqHL (tp.getD 7 0)))), (7, .int (nI c)), (0, .ref (tw_ad G 114))] 307 []
        refine TW.c (L' := [(1, .int (nI (pkT tp))), (2, .int (nI (pkL tp))), (3, .int (nI (sqTF (pkT tp) (pkL tp)))), (5, .int (bI (hasPB tp))), (6, .int (nI (sqHL (tp.getD 7 0)))), (0, .ref (tw_ad G 114))]) (by simp) ?_
        exact t307 f2 (xs ++ [((16 * (ctxN K (mSrc K (nb tp 8 8) (nb tp 16 8)) (nb tp 8 8))) + (ctxN K (mGoal K (nb tp 24 8) (nb tp 32 8)) (nb tp 24 8))) % 256]) hf2 (by first | omega | (simp only [List.length_append, List.length_take, be_len, cutD_len, List.length_cons, List.length_nil]; omega)) (by rw [if_neg (show ¬ (16 * ctxN K (mSrc K (nb tp 8 8) (nb tp 16 8)) (nb tp 8 8) + ctxN K (mGoal K (nb tp 24 8) (nb tp 32 8)) (nb tp 24 8)) = 0 by omega)] at hx; rw [← hx, Nat.mod_eq_of_lt (show (16 * ctxN K (mSrc K (nb tp 8 8) (nb tp 16 8)) (nb tp 8 8) + ctxN K (mGoal K (nb tp 24 8) (nb tp 32 8)) (nb tp 24 8)) < 256 by omega)]; simp only [List.append_assoc, List.cons_append, List.nil_append])
    have t218 : ∀ (c : Nat) (_ : c = 0 ∧ (16 * ctxN K (mSrc K (nb tp 8 8) (nb tp 16 8)) (nb tp 8 8) + ctxN K (mGoal K (nb tp 24 8) (nb tp 32 8)) (nb tp 24 8)) = 0 ∨ c = 1 ∧ (16 * ctxN K (mSrc K (nb tp 8 8) (nb tp 16 8)) (nb tp 8 8) + ctxN K (mGoal K (nb tp 24 8) (nb tp 32 8)) (nb tp 24 8)) ≠ 0) (f : Nat → Int32) (xs : List Nat) (_ : LA f xs) (_ : xs.length ≤ 0) (_ : xs ++ ([sqB1 (sqTF (pkT tp) (pkL tp)) (sqHL (tp.getD 7 0)) (hasPB tp)] ++ ([sqB2 (16 * ctxN K (mSrc K (nb tp 8 8) (nb tp 16 8)) (nb tp 8 8) + ctxN K (mGoal K (nb tp 24 8) (nb tp 32 8)) (nb tp 24 8)) (mSrc K (nb tp 8 8) (nb tp 16 8)) (mGoal K (nb tp 24 8) (nb tp 32 8))] ++ ((if (16 * ctxN K (mSrc K (nb tp 8 8) (nb tp 16 8)) (nb tp 8 8) + ctxN K (mGoal K (nb tp 24 8) (nb tp 32 8)) (nb tp 24 8)) = 0 then [] else [(16 * ctxN K (mSrc K (nb tp 8 8) (nb tp 16 8)) (nb tp 8 8) + ctxN K (mGoal K (nb tp 24 8) (nb tp 32 8)) (nb tp 24 8))]) ++ (sqTr (sqTF (pkT tp) (pkL tp)) (pkT tp) (pkL tp) ++ ((if hasPB tp then [] else [tp.getD 6 0]) ++ ((if sqHL (tp.getD 7 0) = 0 then [tp.getD 7 0] else []) ++ (sqAd (mSrc K (nb tp 8 8) (nb tp 16 8)) (nb tp 8 8) (nb tp 16 8) ++ (sqAd (mGoal K (nb tp 24 8) (nb tp 32 8)) (nb tp 24 8) (nb tp 32 8) ++ (if hasPB tp then sqPo (nb tp 40 2) (nb tp 42 2) (nb tp 46 2) else []))))))))) = (sqHd K tp)), TW G X (MU S1 120 8 f xs) [(1, .int (nI (pkT tp))), (2, .int (nI (pkL tp))), (3, .int (nI (sqTF (pkT tp) (pkL tp)))), (5, .int (bI (hasPB tp))), (6, .int (nI (sqHL (tp.getD 7 0)))), (7, .int (nI c)), (0, .ref (tw_ad G 114))] 218 [] := by
      intro c hc f xs hf hxl hx
      have k1 := ctxN_lt K (mSrc K (nb tp 8 8) (nb tp 16 8)) (nb tp 8 8)
      have k2 := ctxN_lt K (mGoal K (nb tp 24 8) (nb tp 32 8)) (nb tp 24 8)
      have g1 := mSrc_le K (nb tp 8 8) (nb tp 16 8)
      have g2 := (mGoal_le K (nb tp 24 8) (nb tp 32 8)).1
      have g3 := sqTF_lt (pkT tp) (pkL tp)
      have g4 := sqHL_lt (tp.getD 7 0)
      have g5 := sqB1_or (sqTF (pkT tp) (pkL tp)) g3 (sqHL (tp.getD 7 0)) g4
      refine tw_aload_n C dX11_squeezeTape_218 6 rfl ?_
      refine tw_bipush C dX11_squeezeTape_219 (v := nI 96) (by decide) ?_
      refine tw_iload_n C dX11_squeezeTape_221 2 rfl ?_
      refine tw_iconst C dX11_squeezeTape_222 (v := nI 3) (by decide) ?_
      refine tw_ishl C dX11_squeezeTape_223 (v := nI ((sqTF (pkT tp) (pkL tp)) * 8)) (nI_shl _ 3 (by decide)) ?_
      refine tw_ior C dX11_squeezeTape_224 (v := nI (96 ||| ((sqTF (pkT tp) (pkL tp)) * 8))) (nI_or _ _) ?_
      refine tw_iload C dX11_squeezeTape_225 3 rfl ?_
      refine tb_if_eq C dX11_squeezeTape_227 (tgt := 234) (by decide) (fun cp => ?_) (fun cp => ?_)
      · skip
        refine tw_iconst C dX11_squeezeTape_234 (v := nI 0) (by decide) ?_
        refine tw_ior C dX11_squeezeTape_235 (v := nI ((96 ||| ((sqTF (pkT tp) (pkL tp)) * 8)) ||| 0)) (nI_or _ _) ?_
        refine tw_iload C dX11_squeezeTape_236 4 rfl ?_
        refine tw_ior C dX11_squeezeTape_238 (v := nI (((96 ||| ((sqTF (pkT tp) (pkL tp)) * 8)) ||| 0) ||| (sqHL (tp.getD 7 0)))) (nI_or _ _) ?_
        refine tw_callV (As := [.int (nI (((96 ||| ((sqTF (pkT tp) (pkL tp)) * 8)) ||| 0) ||| (sqHL (tp.getD 7 0))))]) (rest := []) C N (c_X11_add hM (B := S1) (f := f) (xs := xs) hf (by first | omega | (simp only [List.length_append, List.length_take, be_len, List.length_cons, List.length_nil]; omega)) (b := ((96 ||| ((sqTF (pkT tp) (pkL tp)) * 8)) ||| 0) ||| (sqHL (tp.getD 7 0)))) mm_X11_add wd_424 rfl (hM 114 (by decide) (by decide)) sh_114 rfl (by decide) rfl (Nat.le_of_ble_eq_true rfl) dX11_squeezeTape_239 ?_
        rintro _ _ ⟨f1, rfl, hf1⟩
        show TW G X (MU S1 120 8 f1 (xs ++ [(((96 ||| ((sqTF (pkT tp) (pkL tp)) * 8)) ||| 0) ||| (sqHL (tp.getD 7 0))) % 256])) [(1, .int (nI (pkT tp))), (2, .int (nI (pkL tp))), (3, .int (nI (sqTF (pkT tp) (pkL tp)))), (5, .int (bI (hasPB tp))), (6, .int (nI (sqHL (tp.getD 7 0)))), (7, .int (nI c)), (0, .ref (tw_ad G 114))] 242 []
        refine tw_aload_n C dX11_squeezeTape_242 6 rfl ?_
        refine tw_iload C dX11_squeezeTape_243 5 rfl ?_
        refine tw_bipush C dX11_squeezeTape_245 (v := nI 7) (by decide) ?_
        refine tw_ishl C dX11_squeezeTape_247 (v := nI (c * 128)) (nI_shl _ 7 (by decide)) ?_
        refine tw_aload_n C dX11_squeezeTape_248 6 rfl ?_
        refine tw_getI (v := nI ((mSrc K (nb tp 8 8) (nb tp 16 8)) / 4)) (k := 11) C dX11_squeezeTape_249 fc_X11 sh_114 (hM 114 (by decide) (by decide)) rfl (by decide) wd_393 h11 ?_
        refine tw_bipush C dX11_squeezeTape_252 (v := nI 6) (by decide) ?_
        refine tw_ishl C dX11_squeezeTape_254 (v := nI (((mSrc K (nb tp 8 8) (nb tp 16 8)) / 4) * 64)) (nI_shl _ 6 (by decide)) ?_
        refine tw_ior C dX11_squeezeTape_255 (v := nI ((c * 128) ||| (((mSrc K (nb tp 8 8) (nb tp 16 8)) / 4) * 64))) (nI_or _ _) ?_
        refine tw_aload_n C dX11_squeezeTape_256 6 rfl ?_
        refine tw_getI (v := nI ((mSrc K (nb tp 8 8) (nb tp 16 8)) % 4)) (k := 12) C dX11_squeezeTape_257 fc_X11 sh_114 (hM 114 (by decide) (by decide)) rfl (by decide) wd_394 h12 ?_
        refine tw_iconst C dX11_squeezeTape_260 (v := nI 4) (by decide) ?_
        refine tw_ishl C dX11_squeezeTape_261 (v := nI (((mSrc K (nb tp 8 8) (nb tp 16 8)) % 4) * 16)) (nI_shl _ 4 (by decide)) ?_
        refine tw_ior C dX11_squeezeTape_262 (v := nI (((c * 128) ||| (((mSrc K (nb tp 8 8) (nb tp 16 8)) / 4) * 64)) ||| (((mSrc K (nb tp 8 8) (nb tp 16 8)) % 4) * 16))) (nI_or _ _) ?_
        refine tw_aload_n C dX11_squeezeTape_263 6 rfl ?_
        refine tw_getI (v := nI ((mGoal K (nb tp 24 8) (nb tp 32 8)) / 8)) (k := 14) C dX11_squeezeTape_264 fc_X11 sh_114 (hM 114 (by decide) (by decide)) rfl (by decide) wd_395 h14 ?_
        refine tw_iconst C dX11_squeezeTape_267 (v := nI 3) (by decide) ?_
        refine tw_ishl C dX11_squeezeTape_268 (v := nI (((mGoal K (nb tp 24 8) (nb tp 32 8)) / 8) * 8)) (nI_shl _ 3 (by decide)) ?_
        refine tw_ior C dX11_squeezeTape_269 (v := nI ((((c * 128) ||| (((mSrc K (nb tp 8 8) (nb tp 16 8)) / 4) * 64)) ||| (((mSrc K (nb tp 8 8) (nb tp 16 8)) % 4) * 16)) ||| (((mGoal K (nb tp 24 8) (nb tp 32 8)) / 8) * 8))) (nI_or _ _) ?_
        refine tw_aload_n C dX11_squeezeTape_270 6 rfl ?_
        refine tw_getI (v := nI ((mGoal K (nb tp 24 8) (nb tp 32 8)) / 4 % 2)) (k := 15) C dX11_squeezeTape_271 fc_X11 sh_114 (hM 114 (by decide) (by decide)) rfl (by decide) wd_396 h15 ?_
        refine tw_iconst C dX11_squeezeTape_274 (v := nI 2) (by decide) ?_
        refine tw_ishl C dX11_squeezeTape_275 (v := nI (((mGoal K (nb tp 24 8) (nb tp 32 8)) / 4 % 2) * 4)) (nI_shl _ 2 (by decide)) ?_
        refine tw_ior C dX11_squeezeTape_276 (v := nI (((((c * 128) ||| (((mSrc K (nb tp 8 8) (nb tp 16 8)) / 4) * 64)) ||| (((mSrc K (nb tp 8 8) (nb tp 16 8)) % 4) * 16)) ||| (((mGoal K (nb tp 24 8) (nb tp 32 8)) / 8) * 8)) ||| (((mGoal K (nb tp 24 8) (nb tp 32 8)) / 4 % 2) * 4))) (nI_or _ _) ?_
        refine tw_aload_n C dX11_squeezeTape_277 6 rfl ?_
        refine tw_getI (v := nI ((mGoal K (nb tp 24 8) (nb tp 32 8)) % 4)) (k := 16) C dX11_squeezeTape_278 fc_X11 sh_114 (hM 114 (by decide) (by decide)) rfl (by decide) wd_397 h16 ?_
        refine tw_ior C dX11_squeezeTape_281 (v := nI ((((((c * 128) ||| (((mSrc K (nb tp 8 8) (nb tp 16 8)) / 4) * 64)) ||| (((mSrc K (nb tp 8 8) (nb tp 16 8)) % 4) * 16)) ||| (((mGoal K (nb tp 24 8) (nb tp 32 8)) / 8) * 8)) ||| (((mGoal K (nb tp 24 8) (nb tp 32 8)) / 4 % 2) * 4)) ||| ((mGoal K (nb tp 24 8) (nb tp 32 8)) % 4))) (nI_or _ _) ?_
        refine tw_callV (As := [.int (nI ((((((c * 128) ||| (((mSrc K (nb tp 8 8) (nb tp 16 8)) / 4) * 64)) ||| (((mSrc K (nb tp 8 8) (nb tp 16 8)) % 4) * 16)) ||| (((mGoal K (nb tp 24 8) (nb tp 32 8)) / 8) * 8)) ||| (((mGoal K (nb tp 24 8) (nb tp 32 8)) / 4 % 2) * 4)) ||| ((mGoal K (nb tp 24 8) (nb tp 32 8)) % 4)))]) (rest := []) C N (c_X11_add hM (B := S1) (f := f1) (xs := xs ++ [(((96 ||| ((sqTF (pkT tp) (pkL tp)) * 8)) ||| 0) ||| (sqHL (tp.getD 7 0))) % 256]) hf1 (by first | omega | (simp only [List.length_append, List.length_take, be_len, List.length_cons, List.length_nil]; omega)) (b := (((((c * 128) ||| (((mSrc K (nb tp 8 8) (nb tp 16 8)) / 4) * 64)) ||| (((mSrc K (nb tp 8 8) (nb tp 16 8)) % 4) * 16)) ||| (((mGoal K (nb tp 24 8) (nb tp 32 8)) / 8) * 8)) ||| (((mGoal K (nb tp 24 8) (nb tp 32 8)) / 4 % 2) * 4)) ||| ((mGoal K (nb tp 24 8) (nb tp 32 8)) % 4))) mm_X11_add wd_424 rfl (hM 114 (by decide) (by decide)) sh_114 rfl (by decide) rfl (Nat.le_of_ble_eq_true rfl) dX11_squeezeTape_282 ?_
        rintro _ _ ⟨f3, rfl, hf3⟩
        show TW G X (MU S1 120 8 f3 ((xs ++ [(((96 ||| ((sqTF (pkT tp) (pkL tp)) * 8)) ||| 0) ||| (sqHL (tp.getD 7 0))) % 256]) ++ [((((((c * 128) ||| (((mSrc K (nb tp 8 8) (nb tp 16 8)) / 4) * 64)) ||| (((mSrc K (nb tp 8 8) (nb tp 16 8)) % 4) * 16)) ||| (((mGoal K (nb tp 24 8) (nb tp 32 8)) / 8) * 8)) ||| (((mGoal K (nb tp 24 8) (nb tp 32 8)) / 4 % 2) * 4)) ||| ((mGoal K (nb tp 24 8) (nb tp 32 8)) % 4)) % 256])) [(1, .int (nI (pkT tp))), (2, .int (nI (pkL tp))), (3, .int (nI (sqTF (pkT tp) (pkL tp)))), (5, .int (bI (hasPB tp))), (6, .int (nI (sqHL (tp.getD 7 0)))), (7, .int (nI c)), (0, .ref (tw_ad G 114))] 285 []
        have e2 := sqB2_c (s := (mSrc K (nb tp 8 8) (nb tp 16 8))) (g := (mGoal K (nb tp 24 8) (nb tp 32 8))) hc
        have e1 := mB2_or c (by omega) (mSrc K (nb tp 8 8) (nb tp 16 8)) (by omega) (mGoal K (nb tp 24 8) (nb tp 32 8)) (by omega)
        refine TW.c (L' := [(1, .int (nI (pkT tp))), (2, .int (nI (pkL tp))), (3, .int (nI (sqTF (pkT tp) (pkL tp)))), (5, .int (bI (hasPB tp))), (6, .int (nI (sqHL (tp.getD 7 0)))), (7, .int (nI c)), (0, .ref (tw_ad G 114))]) (by simp) ?_
        exact t285 c hc f3 ((xs ++ [(((96 ||| ((sqTF (pkT tp) (pkL tp)) * 8)) ||| 0) ||| (sqHL (tp.getD 7 0))) % 256]) ++ [((((((c * 128) ||| (((mSrc K (nb tp 8 8) (nb tp 16 8)) / 4) * 64)) ||| (((mSrc K (nb tp 8 8) (nb tp 16 8)) % 4) * 16)) ||| (((mGoal K (nb tp 24 8) (nb tp 32 8)) / 8) * 8)) ||| (((mGoal K (nb tp 24 8) (nb tp 32 8)) / 4 % 2) * 4)) ||| ((mGoal K (nb tp 24 8) (nb tp 32 8)) % 4)) % 256]) hf3 (by first | omega | (simp only [List.length_append, List.length_take, be_len, cutD_len, List.length_cons, List.length_nil]; omega)) (by rw [← hx, e2, e1, cp, g5.2.1, Nat.mod_eq_of_lt (by omega : sqB1 (sqTF (pkT tp) (pkL tp)) (sqHL (tp.getD 7 0)) false < 256), Nat.mod_eq_of_lt (by omega : c * 128 + (mSrc K (nb tp 8 8) (nb tp 16 8)) * 16 + (mGoal K (nb tp 24 8) (nb tp 32 8)) < 256)]; simp only [List.append_assoc, List.cons_append, List.nil_append])
      · skip
        refine tw_iconst C dX11_squeezeTape_230 (v := nI 4) (by decide) ?_
        refine tw_goto C dX11_squeezeTape_231 (tgt := 235) (by decide) ?_
        refine tw_ior C dX11_squeezeTape_235 (v := nI ((96 ||| ((sqTF (pkT tp) (pkL tp)) * 8)) ||| 4)) (nI_or _ _) ?_
        refine tw_iload C dX11_squeezeTape_236 4 rfl ?_
        refine tw_ior C dX11_squeezeTape_238 (v := nI (((96 ||| ((sqTF (pkT tp) (pkL tp)) * 8)) ||| 4) ||| (sqHL (tp.getD 7 0)))) (nI_or _ _) ?_
        refine tw_callV (As := [.int (nI (((96 ||| ((sqTF (pkT tp) (pkL tp)) * 8)) ||| 4) ||| (sqHL (tp.getD 7 0))))]) (rest := []) C N (c_X11_add hM (B := S1) (f := f) (xs := xs) hf (by first | omega | (simp only [List.length_append, List.length_take, be_len, List.length_cons, List.length_nil]; omega)) (b := ((96 ||| ((sqTF (pkT tp) (pkL tp)) * 8)) ||| 4) ||| (sqHL (tp.getD 7 0)))) mm_X11_add wd_424 rfl (hM 114 (by decide) (by decide)) sh_114 rfl (by decide) rfl (Nat.le_of_ble_eq_true rfl) dX11_squeezeTape_239 ?_
        rintro _ _ ⟨f5, rfl, hf5⟩
        show TW G X (MU S1 120 8 f5 (xs ++ [(((96 ||| ((sqTF (pkT tp) (pkL tp)) * 8)) ||| 4) ||| (sqHL (tp.getD 7 0))) % 256])) [(1, .int (nI (pkT tp))), (2, .int (nI (pkL tp))), (3, .int (nI (sqTF (pkT tp) (pkL tp)))), (5, .int (bI (hasPB tp))), (6, .int (nI (sqHL (tp.getD 7 0)))), (7, .int (nI c)), (0, .ref (tw_ad G 114))] 242 []
        refine tw_aload_n C dX11_squeezeTape_242 6 rfl ?_
        refine tw_iload C dX11_squeezeTape_243 5 rfl ?_
        refine tw_bipush C dX11_squeezeTape_245 (v := nI 7) (by decide) ?_
        refine tw_ishl C dX11_squeezeTape_247 (v := nI (c * 128)) (nI_shl _ 7 (by decide)) ?_
        refine tw_aload_n C dX11_squeezeTape_248 6 rfl ?_
        refine tw_getI (v := nI ((mSrc K (nb tp 8 8) (nb tp 16 8)) / 4)) (k := 11) C dX11_squeezeTape_249 fc_X11 sh_114 (hM 114 (by decide) (by decide)) rfl (by decide) wd_393 h11 ?_
        refine tw_bipush C dX11_squeezeTape_252 (v := nI 6) (by decide) ?_
        refine tw_ishl C dX11_squeezeTape_254 (v := nI (((mSrc K (nb tp 8 8) (nb tp 16 8)) / 4) * 64)) (nI_shl _ 6 (by decide)) ?_
        refine tw_ior C dX11_squeezeTape_255 (v := nI ((c * 128) ||| (((mSrc K (nb tp 8 8) (nb tp 16 8)) / 4) * 64))) (nI_or _ _) ?_
        refine tw_aload_n C dX11_squeezeTape_256 6 rfl ?_
        refine tw_getI (v := nI ((mSrc K (nb tp 8 8) (nb tp 16 8)) % 4)) (k := 12) C dX11_squeezeTape_257 fc_X11 sh_114 (hM 114 (by decide) (by decide)) rfl (by decide) wd_394 h12 ?_
        refine tw_iconst C dX11_squeezeTape_260 (v := nI 4) (by decide) ?_
        refine tw_ishl C dX11_squeezeTape_261 (v := nI (((mSrc K (nb tp 8 8) (nb tp 16 8)) % 4) * 16)) (nI_shl _ 4 (by decide)) ?_
        refine tw_ior C dX11_squeezeTape_262 (v := nI (((c * 128) ||| (((mSrc K (nb tp 8 8) (nb tp 16 8)) / 4) * 64)) ||| (((mSrc K (nb tp 8 8) (nb tp 16 8)) % 4) * 16))) (nI_or _ _) ?_
        refine tw_aload_n C dX11_squeezeTape_263 6 rfl ?_
        refine tw_getI (v := nI ((mGoal K (nb tp 24 8) (nb tp 32 8)) / 8)) (k := 14) C dX11_squeezeTape_264 fc_X11 sh_114 (hM 114 (by decide) (by decide)) rfl (by decide) wd_395 h14 ?_
        refine tw_iconst C dX11_squeezeTape_267 (v := nI 3) (by decide) ?_
        refine tw_ishl C dX11_squeezeTape_268 (v := nI (((mGoal K (nb tp 24 8) (nb tp 32 8)) / 8) * 8)) (nI_shl _ 3 (by decide)) ?_
        refine tw_ior C dX11_squeezeTape_269 (v := nI ((((c * 128) ||| (((mSrc K (nb tp 8 8) (nb tp 16 8)) / 4) * 64)) ||| (((mSrc K (nb tp 8 8) (nb tp 16 8)) % 4) * 16)) ||| (((mGoal K (nb tp 24 8) (nb tp 32 8)) / 8) * 8))) (nI_or _ _) ?_
        refine tw_aload_n C dX11_squeezeTape_270 6 rfl ?_
        refine tw_getI (v := nI ((mGoal K (nb tp 24 8) (nb tp 32 8)) / 4 % 2)) (k := 15) C dX11_squeezeTape_271 fc_X11 sh_114 (hM 114 (by decide) (by decide)) rfl (by decide) wd_396 h15 ?_
        refine tw_iconst C dX11_squeezeTape_274 (v := nI 2) (by decide) ?_
        refine tw_ishl C dX11_squeezeTape_275 (v := nI (((mGoal K (nb tp 24 8) (nb tp 32 8)) / 4 % 2) * 4)) (nI_shl _ 2 (by decide)) ?_
        refine tw_ior C dX11_squeezeTape_276 (v := nI (((((c * 128) ||| (((mSrc K (nb tp 8 8) (nb tp 16 8)) / 4) * 64)) ||| (((mSrc K (nb tp 8 8) (nb tp 16 8)) % 4) * 16)) ||| (((mGoal K (nb tp 24 8) (nb tp 32 8)) / 8) * 8)) ||| (((mGoal K (nb tp 24 8) (nb tp 32 8)) / 4 % 2) * 4))) (nI_or _ _) ?_
        refine tw_aload_n C dX11_squeezeTape_277 6 rfl ?_
        refine tw_getI (v := nI ((mGoal K (nb tp 24 8) (nb tp 32 8)) % 4)) (k := 16) C dX11_squeezeTape_278 fc_X11 sh_114 (hM 114 (by decide) (by decide)) rfl (by decide) wd_397 h16 ?_
        refine tw_ior C dX11_squeezeTape_281 (v := nI ((((((c * 128) ||| (((mSrc K (nb tp 8 8) (nb tp 16 8)) / 4) * 64)) ||| (((mSrc K (nb tp 8 8) (nb tp 16 8)) % 4) * 16)) ||| (((mGoal K (nb tp 24 8) (nb tp 32 8)) / 8) * 8)) ||| (((mGoal K (nb tp 24 8) (nb tp 32 8)) / 4 % 2) * 4)) ||| ((mGoal K (nb tp 24 8) (nb tp 32 8)) % 4))) (nI_or _ _) ?_
        refine tw_callV (As := [.int (nI ((((((c * 128) ||| (((mSrc K (nb tp 8 8) (nb tp 16 8)) / 4) * 64)) ||| (((mSrc K (nb tp 8 8) (nb tp 16 8)) % 4) * 16)) ||| (((mGoal K (nb tp 24 8) (nb tp 32 8)) / 8) * 8)) ||| (((mGoal K (nb tp 24 8) (nb tp 32 8)) / 4 % 2) * 4)) ||| ((mGoal K (nb tp 24 8) (nb tp 32 8)) % 4)))]) (rest := []) C N (c_X11_add hM (B := S1) (f := f5) (xs := xs ++ [(((96 ||| ((sqTF (pkT tp) (pkL tp)) * 8)) ||| 4) ||| (sqHL (tp.getD 7 0))) % 256]) hf5 (by first | omega | (simp only [List.length_append, List.length_take, be_len, List.length_cons, List.length_nil]; omega)) (b := (((((c * 128) ||| (((mSrc K (nb tp 8 8) (nb tp 16 8)) / 4) * 64)) ||| (((mSrc K (nb tp 8 8) (nb tp 16 8)) % 4) * 16)) ||| (((mGoal K (nb tp 24 8) (nb tp 32 8)) / 8) * 8)) ||| (((mGoal K (nb tp 24 8) (nb tp 32 8)) / 4 % 2) * 4)) ||| ((mGoal K (nb tp 24 8) (nb tp 32 8)) % 4))) mm_X11_add wd_424 rfl (hM 114 (by decide) (by decide)) sh_114 rfl (by decide) rfl (Nat.le_of_ble_eq_true rfl) dX11_squeezeTape_282 ?_
        rintro _ _ ⟨f7, rfl, hf7⟩
        show TW G X (MU S1 120 8 f7 ((xs ++ [(((96 ||| ((sqTF (pkT tp) (pkL tp)) * 8)) ||| 4) ||| (sqHL (tp.getD 7 0))) % 256]) ++ [((((((c * 128) ||| (((mSrc K (nb tp 8 8) (nb tp 16 8)) / 4) * 64)) ||| (((mSrc K (nb tp 8 8) (nb tp 16 8)) % 4) * 16)) ||| (((mGoal K (nb tp 24 8) (nb tp 32 8)) / 8) * 8)) ||| (((mGoal K (nb tp 24 8) (nb tp 32 8)) / 4 % 2) * 4)) ||| ((mGoal K (nb tp 24 8) (nb tp 32 8)) % 4)) % 256])) [(1, .int (nI (pkT tp))), (2, .int (nI (pkL tp))), (3, .int (nI (sqTF (pkT tp) (pkL tp)))), (5, .int (bI (hasPB tp))), (6, .int (nI (sqHL (tp.getD 7 0)))), (7, .int (nI c)), (0, .ref (tw_ad G 114))] 285 []
        have e2 := sqB2_c (s := (mSrc K (nb tp 8 8) (nb tp 16 8))) (g := (mGoal K (nb tp 24 8) (nb tp 32 8))) hc
        have e1 := mB2_or c (by omega) (mSrc K (nb tp 8 8) (nb tp 16 8)) (by omega) (mGoal K (nb tp 24 8) (nb tp 32 8)) (by omega)
        refine TW.c (L' := [(1, .int (nI (pkT tp))), (2, .int (nI (pkL tp))), (3, .int (nI (sqTF (pkT tp) (pkL tp)))), (5, .int (bI (hasPB tp))), (6, .int (nI (sqHL (tp.getD 7 0)))), (7, .int (nI c)), (0, .ref (tw_ad G 114))]) (by simp) ?_
        exact t285 c hc f7 ((xs ++ [(((96 ||| ((sqTF (pkT tp) (pkL tp)) * 8)) ||| 4) ||| (sqHL (tp.getD 7 0))) % 256]) ++ [((((((c * 128) ||| (((mSrc K (nb tp 8 8) (nb tp 16 8)) / 4) * 64)) ||| (((mSrc K (nb tp 8 8) (nb tp 16 8)) % 4) * 16)) ||| (((mGoal K (nb tp 24 8) (nb tp 32 8)) / 8) * 8)) ||| (((mGoal K (nb tp 24 8) (nb tp 32 8)) / 4 % 2) * 4)) ||| ((mGoal K (nb tp 24 8) (nb tp 32 8)) % 4)) % 256]) hf7 (by first | omega | (simp only [List.length_append, List.length_take, be_len, cutD_len, List.length_cons, List.length_nil]; omega)) (by rw [← hx, e2, e1, cp, g5.1, Nat.mod_eq_of_lt (by omega : sqB1 (sqTF (pkT tp) (pkL tp)) (sqHL (tp.getD 7 0)) true < 256), Nat.mod_eq_of_lt (by omega : c * 128 + (mSrc K (nb tp 8 8) (nb tp 16 8)) * 16 + (mGoal K (nb tp 24 8) (nb tp 32 8)) < 256)]; simp only [List.append_assoc, List.cons_append, List.nil_append])
    refine tw_aload_n C dX11_squeezeTape_197 5 rfl ?_
    refine tw_getI (v := nI (ctxN K (mSrc K (nb tp 8 8) (nb tp 16 8)) (nb tp 8 8))) (k := 13) C dX11_squeezeTape_198 fc_X11 sh_114 (hM 114 (by decide) (by decide)) rfl (by decide) wd_391 h13 ?_
    refine tn_if_ne C dX11_squeezeTape_201 (tgt := 211) (by decide) (by omega) (fun c1 => ?_) (fun c1 => ?_)
    · skip
      refine tw_iconst C dX11_squeezeTape_211 (v := nI 1) (by decide) ?_
      refine tw_goto C dX11_squeezeTape_212 (tgt := 216) (by decide) ?_
      refine tw_istore (L' := [(7, .int (nI 1)), (1, .int (nI (pkT tp))), (2, .int (nI (pkL tp))), (3, .int (nI (sqTF (pkT tp) (pkL tp)))), (5, .int (bI (hasPB tp))), (6, .int (nI (sqHL (tp.getD 7 0)))), (0, .ref (tw_ad G 114))]) C N dX11_squeezeTape_216 (i := 7) (by decide) rfl ?_
      refine TW.sS (S' := MU S1 120 8 (tw_A S1 120) []) (MU_self h8) ?_
      refine TW.c (L' := [(1, .int (nI (pkT tp))), (2, .int (nI (pkL tp))), (3, .int (nI (sqTF (pkT tp) (pkL tp)))), (5, .int (bI (hasPB tp))), (6, .int (nI (sqHL (tp.getD 7 0)))), (7, .int (nI 1)), (0, .ref (tw_ad G 114))]) (by simp) ?_
      exact t218 1 (by omega) _ [] (fun i hi => absurd hi (by simp)) (by simp) rfl
    · skip
      refine tw_aload_n C dX11_squeezeTape_204 5 rfl ?_
      refine tw_getI (v := nI (ctxN K (mGoal K (nb tp 24 8) (nb tp 32 8)) (nb tp 24 8))) (k := 17) C dX11_squeezeTape_205 fc_X11 sh_114 (hM 114 (by decide) (by decide)) rfl (by decide) wd_392 h17 ?_
      refine tn_if_eq C dX11_squeezeTape_208 (tgt := 215) (by decide) (by omega) (fun c2 => ?_) (fun c2 => ?_)
      · skip
        refine tw_iconst C dX11_squeezeTape_215 (v := nI 0) (by decide) ?_
        refine tw_istore (L' := [(7, .int (nI 0)), (1, .int (nI (pkT tp))), (2, .int (nI (pkL tp))), (3, .int (nI (sqTF (pkT tp) (pkL tp)))), (5, .int (bI (hasPB tp))), (6, .int (nI (sqHL (tp.getD 7 0)))), (0, .ref (tw_ad G 114))]) C N dX11_squeezeTape_216 (i := 7) (by decide) rfl ?_
        refine TW.sS (S' := MU S1 120 8 (tw_A S1 120) []) (MU_self h8) ?_
        refine TW.c (L' := [(1, .int (nI (pkT tp))), (2, .int (nI (pkL tp))), (3, .int (nI (sqTF (pkT tp) (pkL tp)))), (5, .int (bI (hasPB tp))), (6, .int (nI (sqHL (tp.getD 7 0)))), (7, .int (nI 0)), (0, .ref (tw_ad G 114))]) (by simp) ?_
        exact t218 0 (by omega) _ [] (fun i hi => absurd hi (by simp)) (by simp) rfl
      · skip
        refine tw_iconst C dX11_squeezeTape_211 (v := nI 1) (by decide) ?_
        refine tw_goto C dX11_squeezeTape_212 (tgt := 216) (by decide) ?_
        refine tw_istore (L' := [(7, .int (nI 1)), (1, .int (nI (pkT tp))), (2, .int (nI (pkL tp))), (3, .int (nI (sqTF (pkT tp) (pkL tp)))), (5, .int (bI (hasPB tp))), (6, .int (nI (sqHL (tp.getD 7 0)))), (0, .ref (tw_ad G 114))]) C N dX11_squeezeTape_216 (i := 7) (by decide) rfl ?_
        refine TW.sS (S' := MU S1 120 8 (tw_A S1 120) []) (MU_self h8) ?_
        refine TW.c (L' := [(1, .int (nI (pkT tp))), (2, .int (nI (pkL tp))), (3, .int (nI (sqTF (pkT tp) (pkL tp)))), (5, .int (bI (hasPB tp))), (6, .int (nI (sqHL (tp.getD 7 0)))), (7, .int (nI 1)), (0, .ref (tw_ad G 114))]) (by simp) ?_
        exact t218 1 (by omega) _ [] (fun i hi => absurd hi (by simp)) (by simp) rfl
  have t193 : TW G X (tw_uI S 114 8 (nI 0)) [(1, .int (nI (pkT tp))), (2, .int (nI (pkL tp))), (3, .int (nI (sqTF (pkT tp) (pkL tp)))), (5, .int (bI (hasPB tp))), (6, .int (nI (sqHL (tp.getD 7 0)))), (0, .ref (tw_ad G 114))] 193 [] := by
    refine tw_aload_n C dX11_squeezeTape_193 5 rfl ?_
    refine tw_callV (As := []) (rest := []) C N (c_X11_sorts hM (S := tw_uI S 114 8 (nI 0)) (K := K) hI.1 (tp := tp) hI.2.1.1 htb htl h40) mm_X11_sorts wd_400 rfl (hM 114 (by decide) (by decide)) sh_114 rfl (by decide) rfl (Nat.le_of_ble_eq_true rfl) dX11_squeezeTape_194 ?_
    rintro _ S1 ⟨g1, h11, h12, h13, h14, h15, h16, h17⟩
    show TW G X S1 [(1, .int (nI (pkT tp))), (2, .int (nI (pkL tp))), (3, .int (nI (sqTF (pkT tp) (pkL tp)))), (5, .int (bI (hasPB tp))), (6, .int (nI (sqHL (tp.getD 7 0)))), (0, .ref (tw_ad G 114))] 197 []
    exact t197 S1 g1 h11 h12 h13 h14 h15 h16 h17
  have t142 : TW G X (tw_uI S 114 8 (nI 0)) [(1, .int (nI (pkT tp))), (2, .int (nI (pkL tp))), (3, .int (nI (sqTF (pkT tp) (pkL tp)))), (5, .int (bI (hasPB tp))), (0, .ref (tw_ad G 114))] 142 [] := by
    refine tw_aload_n C dX11_squeezeTape_142 4 rfl ?_
    refine tw_getR (q := 118) (k := 3) C dX11_squeezeTape_143 fc_X11 sh_114 (hM 114 (by decide) (by decide)) rfl (by decide) wd_114 ?_
    refine tw_bipush C dX11_squeezeTape_146 (v := nI 7) (by decide) ?_
    refine tw_iald (v := nI (tp.getD 7 0)) C dX11_squeezeTape_148 sn_118 sa_118 (hM 118 (by decide) (by decide)) (by omega) (by decide) (hI.2.1.1 7 (by omega)) ?_
    refine tw_iconst C dX11_squeezeTape_149 (v := nI 1) (by decide) ?_
    refine tn_icmp_ne C dX11_squeezeTape_150 (tgt := 157) (by decide) (Nat.lt_trans (gD_lt htb _) (by decide)) (by omega) (fun c1 => ?_) (fun c1 => ?_)
    · skip
      refine tw_aload_n C dX11_squeezeTape_157 4 rfl ?_
      refine tw_getR (q := 118) (k := 3) C dX11_squeezeTape_158 fc_X11 sh_114 (hM 114 (by decide) (by decide)) rfl (by decide) wd_114 ?_
      refine tw_bipush C dX11_squeezeTape_161 (v := nI 7) (by decide) ?_
      refine tw_iald (v := nI (tp.getD 7 0)) C dX11_squeezeTape_163 sn_118 sa_118 (hM 118 (by decide) (by decide)) (by omega) (by decide) (hI.2.1.1 7 (by omega)) ?_
      refine tw_bipush C dX11_squeezeTape_164 (v := nI 64) (by decide) ?_
      refine tn_icmp_ne C dX11_squeezeTape_166 (tgt := 173) (by decide) (Nat.lt_trans (gD_lt htb _) (by decide)) (by omega) (fun c2 => ?_) (fun c2 => ?_)
      · skip
        refine tw_aload_n C dX11_squeezeTape_173 4 rfl ?_
        refine tw_getR (q := 118) (k := 3) C dX11_squeezeTape_174 fc_X11 sh_114 (hM 114 (by decide) (by decide)) rfl (by decide) wd_114 ?_
        refine tw_bipush C dX11_squeezeTape_177 (v := nI 7) (by decide) ?_
        refine tw_iald (v := nI (tp.getD 7 0)) C dX11_squeezeTape_179 sn_118 sa_118 (hM 118 (by decide) (by decide)) (by omega) (by decide) (hI.2.1.1 7 (by omega)) ?_
        refine tw_sipush C dX11_squeezeTape_180 (v := nI 255) (by decide) ?_
        refine tn_icmp_ne C dX11_squeezeTape_183 (tgt := 190) (by decide) (Nat.lt_trans (gD_lt htb _) (by decide)) (by omega) (fun c3 => ?_) (fun c3 => ?_)
        · skip
          refine tw_iconst C dX11_squeezeTape_190 (v := nI 0) (by decide) ?_
          refine tw_istore (L' := [(6, .int (nI 0)), (1, .int (nI (pkT tp))), (2, .int (nI (pkL tp))), (3, .int (nI (sqTF (pkT tp) (pkL tp)))), (5, .int (bI (hasPB tp))), (0, .ref (tw_ad G 114))]) C N dX11_squeezeTape_191 (i := 6) (by decide) rfl ?_
          refine TW.c (L' := [(1, .int (nI (pkT tp))), (2, .int (nI (pkL tp))), (3, .int (nI (sqTF (pkT tp) (pkL tp)))), (5, .int (bI (hasPB tp))), (6, .int (nI (sqHL (tp.getD 7 0)))), (0, .ref (tw_ad G 114))]) (by rw [show sqHL (tp.getD 7 0) = 0 from by unfold sqHL; (repeat' split) <;> omega]; simp) ?_
          exact t193
        · skip
          refine tw_iconst C dX11_squeezeTape_186 (v := nI 3) (by decide) ?_
          refine tw_goto C dX11_squeezeTape_187 (tgt := 191) (by decide) ?_
          refine tw_istore (L' := [(6, .int (nI 3)), (1, .int (nI (pkT tp))), (2, .int (nI (pkL tp))), (3, .int (nI (sqTF (pkT tp) (pkL tp)))), (5, .int (bI (hasPB tp))), (0, .ref (tw_ad G 114))]) C N dX11_squeezeTape_191 (i := 6) (by decide) rfl ?_
          refine TW.c (L' := [(1, .int (nI (pkT tp))), (2, .int (nI (pkL tp))), (3, .int (nI (sqTF (pkT tp) (pkL tp)))), (5, .int (bI (hasPB tp))), (6, .int (nI (sqHL (tp.getD 7 0)))), (0, .ref (tw_ad G 114))]) (by rw [show sqHL (tp.getD 7 0) = 3 from by unfold sqHL; (repeat' split) <;> omega]; simp) ?_
          exact t193
      · skip
        refine tw_iconst C dX11_squeezeTape_169 (v := nI 2) (by decide) ?_
        refine tw_goto C dX11_squeezeTape_170 (tgt := 191) (by decide) ?_
        refine tw_istore (L' := [(6, .int (nI 2)), (1, .int (nI (pkT tp))), (2, .int (nI (pkL tp))), (3, .int (nI (sqTF (pkT tp) (pkL tp)))), (5, .int (bI (hasPB tp))), (0, .ref (tw_ad G 114))]) C N dX11_squeezeTape_191 (i := 6) (by decide) rfl ?_
        refine TW.c (L' := [(1, .int (nI (pkT tp))), (2, .int (nI (pkL tp))), (3, .int (nI (sqTF (pkT tp) (pkL tp)))), (5, .int (bI (hasPB tp))), (6, .int (nI (sqHL (tp.getD 7 0)))), (0, .ref (tw_ad G 114))]) (by rw [show sqHL (tp.getD 7 0) = 2 from by unfold sqHL; (repeat' split) <;> omega]; simp) ?_
        exact t193
    · skip
      refine tw_iconst C dX11_squeezeTape_153 (v := nI 1) (by decide) ?_
      refine tw_goto C dX11_squeezeTape_154 (tgt := 191) (by decide) ?_
      refine tw_istore (L' := [(6, .int (nI 1)), (1, .int (nI (pkT tp))), (2, .int (nI (pkL tp))), (3, .int (nI (sqTF (pkT tp) (pkL tp)))), (5, .int (bI (hasPB tp))), (0, .ref (tw_ad G 114))]) C N dX11_squeezeTape_191 (i := 6) (by decide) rfl ?_
      refine TW.c (L' := [(1, .int (nI (pkT tp))), (2, .int (nI (pkL tp))), (3, .int (nI (sqTF (pkT tp) (pkL tp)))), (5, .int (bI (hasPB tp))), (6, .int (nI (sqHL (tp.getD 7 0)))), (0, .ref (tw_ad G 114))]) (by rw [show sqHL (tp.getD 7 0) = 1 from by unfold sqHL; (repeat' split) <;> omega]; simp) ?_
      exact t193
  have t84 : TW G X (tw_uI S 114 8 (nI 0)) [(1, .int (nI (pkT tp))), (2, .int (nI (pkL tp))), (3, .int (nI (sqTF (pkT tp) (pkL tp)))), (0, .ref (tw_ad G 114))] 84 [] := by
    have n44 : nb tp 44 2 = tp.getD 44 0 * 256 + tp.getD 45 0 := nb2 tp 44
    have b44 := gD_lt htb 44
    have b45 := gD_lt htb 45
    have b6 := gD_lt htb 6
    have b7 := gD_lt htb 7
    refine tw_aload_n C dX11_squeezeTape_84 3 rfl ?_
    refine tw_getI (v := nI tp.length) (k := 4) C dX11_squeezeTape_85 fc_X11 sh_114 (hM 114 (by decide) (by decide)) rfl (by decide) wd_189 hI.2.1.2 ?_
    refine tw_bipush C dX11_squeezeTape_88 (v := nI 40) (by decide) ?_
    refine tw_isub C dX11_squeezeTape_90 (v := nI (tp.length - 40)) (pk_sub (by omega)) ?_
    refine tw_istore (L' := [(4, .int (nI (tp.length - 40))), (1, .int (nI (pkT tp))), (2, .int (nI (pkL tp))), (3, .int (nI (sqTF (pkT tp) (pkL tp)))), (0, .ref (tw_ad G 114))]) C N dX11_squeezeTape_91 (i := 4) (by decide) rfl ?_
    refine tw_aload_n C dX11_squeezeTape_93 4 rfl ?_
    refine tw_getR (q := 118) (k := 3) C dX11_squeezeTape_94 fc_X11 sh_114 (hM 114 (by decide) (by decide)) rfl (by decide) wd_114 ?_
    refine tw_bipush C dX11_squeezeTape_97 (v := nI 6) (by decide) ?_
    refine tw_iald (v := nI (tp.getD 6 0)) C dX11_squeezeTape_99 sn_118 sa_118 (hM 118 (by decide) (by decide)) (by omega) (by decide) (hI.2.1.1 6 (by omega)) ?_
    refine tw_bipush C dX11_squeezeTape_100 (v := nI 17) (by decide) ?_
    refine tn_icmp_ne C dX11_squeezeTape_102 (tgt := 139) (by decide) (by omega) (by omega) (fun c1 => ?_) (fun c1 => ?_)
    · skip
      refine tw_iconst C dX11_squeezeTape_139 (v := nI 0) (by decide) ?_
      refine tw_istore (L' := [(5, .int (nI 0)), (4, .int (nI (tp.length - 40))), (1, .int (nI (pkT tp))), (2, .int (nI (pkL tp))), (3, .int (nI (sqTF (pkT tp) (pkL tp)))), (0, .ref (tw_ad G 114))]) C N dX11_squeezeTape_140 (i := 5) (by decide) rfl ?_
      have e5 : nI 0 = bI (hasPB tp) := bI_nf (Bool.eq_false_iff.mpr (fun h => by obtain ⟨h1, h2, h3⟩ := (hasPB_iff tp).mp h; rw [n44] at h3; omega))
      refine TW.c (L' := [(1, .int (nI (pkT tp))), (2, .int (nI (pkL tp))), (3, .int (nI (sqTF (pkT tp) (pkL tp)))), (5, .int (bI (hasPB tp))), (0, .ref (tw_ad G 114))]) (by rw [← e5]; simp) ?_
      exact t142
    · skip
      refine tw_iload C dX11_squeezeTape_105 0 rfl ?_
      refine tw_bipush C dX11_squeezeTape_107 (v := nI 8) (by decide) ?_
      refine tn_icmp_lt C dX11_squeezeTape_109 (tgt := 139) (by decide) (by omega) (by omega) (fun c2 => ?_) (fun c2 => ?_)
      · skip
        refine tw_iconst C dX11_squeezeTape_139 (v := nI 0) (by decide) ?_
        refine tw_istore (L' := [(5, .int (nI 0)), (4, .int (nI (tp.length - 40))), (1, .int (nI (pkT tp))), (2, .int (nI (pkL tp))), (3, .int (nI (sqTF (pkT tp) (pkL tp)))), (0, .ref (tw_ad G 114))]) C N dX11_squeezeTape_140 (i := 5) (by decide) rfl ?_
        have e5 : nI 0 = bI (hasPB tp) := bI_nf (Bool.eq_false_iff.mpr (fun h => by obtain ⟨h1, h2, h3⟩ := (hasPB_iff tp).mp h; rw [n44] at h3; omega))
        refine TW.c (L' := [(1, .int (nI (pkT tp))), (2, .int (nI (pkL tp))), (3, .int (nI (sqTF (pkT tp) (pkL tp)))), (5, .int (bI (hasPB tp))), (0, .ref (tw_ad G 114))]) (by rw [← e5]; simp) ?_
        exact t142
      · skip
        refine tw_aload_n C dX11_squeezeTape_112 4 rfl ?_
        refine tw_getR (q := 118) (k := 3) C dX11_squeezeTape_113 fc_X11 sh_114 (hM 114 (by decide) (by decide)) rfl (by decide) wd_114 ?_
        refine tw_bipush C dX11_squeezeTape_116 (v := nI 44) (by decide) ?_
        refine tw_iald (v := nI (tp.getD 44 0)) C dX11_squeezeTape_118 sn_118 sa_118 (hM 118 (by decide) (by decide)) (by omega) (by decide) (hI.2.1.1 44 (by omega)) ?_
        refine tw_bipush C dX11_squeezeTape_119 (v := nI 8) (by decide) ?_
        refine tw_ishl C dX11_squeezeTape_121 (v := nI ((tp.getD 44 0) * 256)) (nI_shl _ 8 (by decide)) ?_
        refine tw_aload_n C dX11_squeezeTape_122 4 rfl ?_
        refine tw_getR (q := 118) (k := 3) C dX11_squeezeTape_123 fc_X11 sh_114 (hM 114 (by decide) (by decide)) rfl (by decide) wd_114 ?_
        refine tw_bipush C dX11_squeezeTape_126 (v := nI 45) (by decide) ?_
        refine tw_iald (v := nI (tp.getD 45 0)) C dX11_squeezeTape_128 sn_118 sa_118 (hM 118 (by decide) (by decide)) (by omega) (by decide) (hI.2.1.1 45 (by omega)) ?_
        refine tw_ior C dX11_squeezeTape_129 (v := nI (tp.getD 44 0 * 256 + tp.getD 45 0)) (or_nb b45) ?_
        refine tw_iload C dX11_squeezeTape_130 0 rfl ?_
        refine tn_icmp_ne C dX11_squeezeTape_132 (tgt := 139) (by decide) (by omega) (by omega) (fun c3 => ?_) (fun c3 => ?_)
        · skip
          refine tw_iconst C dX11_squeezeTape_139 (v := nI 0) (by decide) ?_
          refine tw_istore (L' := [(5, .int (nI 0)), (4, .int (nI (tp.length - 40))), (1, .int (nI (pkT tp))), (2, .int (nI (pkL tp))), (3, .int (nI (sqTF (pkT tp) (pkL tp)))), (0, .ref (tw_ad G 114))]) C N dX11_squeezeTape_140 (i := 5) (by decide) rfl ?_
          have e5 : nI 0 = bI (hasPB tp) := bI_nf (Bool.eq_false_iff.mpr (fun h => by obtain ⟨h1, h2, h3⟩ := (hasPB_iff tp).mp h; rw [n44] at h3; omega))
          refine TW.c (L' := [(1, .int (nI (pkT tp))), (2, .int (nI (pkL tp))), (3, .int (nI (sqTF (pkT tp) (pkL tp)))), (5, .int (bI (hasPB tp))), (0, .ref (tw_ad G 114))]) (by rw [← e5]; simp) ?_
          exact t142
        · skip
          refine tw_iconst C dX11_squeezeTape_135 (v := nI 1) (by decide) ?_
          refine tw_goto C dX11_squeezeTape_136 (tgt := 140) (by decide) ?_
          refine tw_istore (L' := [(5, .int (nI 1)), (4, .int (nI (tp.length - 40))), (1, .int (nI (pkT tp))), (2, .int (nI (pkL tp))), (3, .int (nI (sqTF (pkT tp) (pkL tp)))), (0, .ref (tw_ad G 114))]) C N dX11_squeezeTape_140 (i := 5) (by decide) rfl ?_
          have e5 : nI 1 = bI (hasPB tp) := bI_nt ((hasPB_iff tp).mpr ⟨by omega, by omega, by rw [n44]; omega⟩)
          refine TW.c (L' := [(1, .int (nI (pkT tp))), (2, .int (nI (pkL tp))), (3, .int (nI (sqTF (pkT tp) (pkL tp)))), (5, .int (bI (hasPB tp))), (0, .ref (tw_ad G 114))]) (by rw [← e5]; simp) ?_
          exact t142
  refine tw_aload_n C dX11_squeezeTape_0 0 rfl ?_
  refine tw_iconst C dX11_squeezeTape_1 (v := nI 0) (by decide) ?_
  refine tw_putI (k := 8) C dX11_squeezeTape_2 fc_X11 sh_114 (hM 114 (by decide) (by decide)) rfl (by decide) rfl wd_390 rfl rfl ?_
  refine tw_aload_n C dX11_squeezeTape_5 0 rfl ?_
  refine tw_getR (q := 118) (k := 3) C dX11_squeezeTape_6 fc_X11 sh_114 (hM 114 (by decide) (by decide)) rfl (by decide) wd_114 ?_
  refine tw_iconst C dX11_squeezeTape_9 (v := nI 0) (by decide) ?_
  refine tw_iald (v := nI (tp.getD 0 0)) C dX11_squeezeTape_10 sn_118 sa_118 (hM 118 (by decide) (by decide)) (by omega) (by decide) (hI.2.1.1 0 (by omega)) ?_
  refine tw_bipush C dX11_squeezeTape_11 (v := nI 15) (by decide) ?_
  refine tw_iand C dX11_squeezeTape_13 (v := nI ((tp.getD 0 0) % 16)) (nI_andm 4 (by decide)) ?_
  refine tw_iconst C dX11_squeezeTape_14 (v := nI 4) (by decide) ?_
  refine tw_ishl C dX11_squeezeTape_15 (v := nI (((tp.getD 0 0) % 16) * 16)) (nI_shl _ 4 (by decide)) ?_
  refine tw_aload_n C dX11_squeezeTape_16 0 rfl ?_
  refine tw_getR (q := 118) (k := 3) C dX11_squeezeTape_17 fc_X11 sh_114 (hM 114 (by decide) (by decide)) rfl (by decide) wd_114 ?_
  refine tw_iconst C dX11_squeezeTape_20 (v := nI 1) (by decide) ?_
  refine tw_iald (v := nI (tp.getD 1 0)) C dX11_squeezeTape_21 sn_118 sa_118 (hM 118 (by decide) (by decide)) (by omega) (by decide) (hI.2.1.1 1 (by omega)) ?_
  refine tw_iconst C dX11_squeezeTape_22 (v := nI 4) (by decide) ?_
  refine tw_ishr C dX11_squeezeTape_23 (v := nI ((tp.getD 1 0) / 16)) (nI_shr (by omega) 4 (by decide)) ?_
  refine tw_ior C dX11_squeezeTape_24 (v := nI ((((tp.getD 0 0) % 16) * 16) ||| ((tp.getD 1 0) / 16))) (nI_or _ _) ?_
  refine TW.ti (y := nI (pkT tp)) (congrArg nI (pkT_or htb)) ?_
  refine tw_istore_n (L' := [(1, .int (nI (pkT tp))), (0, .ref (tw_ad G 114))]) C N dX11_squeezeTape_25 rfl (by decide) rfl ?_
  refine tw_aload_n C dX11_squeezeTape_26 1 rfl ?_
  refine tw_getR (q := 118) (k := 3) C dX11_squeezeTape_27 fc_X11 sh_114 (hM 114 (by decide) (by decide)) rfl (by decide) wd_114 ?_
  refine tw_iconst C dX11_squeezeTape_30 (v := nI 1) (by decide) ?_
  refine tw_iald (v := nI (tp.getD 1 0)) C dX11_squeezeTape_31 sn_118 sa_118 (hM 118 (by decide) (by decide)) (by omega) (by decide) (hI.2.1.1 1 (by omega)) ?_
  refine tw_bipush C dX11_squeezeTape_32 (v := nI 15) (by decide) ?_
  refine tw_iand C dX11_squeezeTape_34 (v := nI ((tp.getD 1 0) % 16)) (nI_andm 4 (by decide)) ?_
  refine tw_bipush C dX11_squeezeTape_35 (v := nI 16) (by decide) ?_
  refine tw_ishl C dX11_squeezeTape_37 (v := nI (((tp.getD 1 0) % 16) * 65536)) (nI_shl _ 16 (by decide)) ?_
  refine tw_aload_n C dX11_squeezeTape_38 1 rfl ?_
  refine tw_getR (q := 118) (k := 3) C dX11_squeezeTape_39 fc_X11 sh_114 (hM 114 (by decide) (by decide)) rfl (by decide) wd_114 ?_
  refine tw_iconst C dX11_squeezeTape_42 (v := nI 2) (by decide) ?_
  refine tw_iald (v := nI (tp.getD 2 0)) C dX11_squeezeTape_43 sn_118 sa_118 (hM 118 (by decide) (by decide)) (by omega) (by decide) (hI.2.1.1 2 (by omega)) ?_
  refine tw_bipush C dX11_squeezeTape_44 (v := nI 8) (by decide) ?_
  refine tw_ishl C dX11_squeezeTape_46 (v := nI ((tp.getD 2 0) * 256)) (nI_shl _ 8 (by decide)) ?_
  refine tw_ior C dX11_squeezeTape_47 (v := nI ((((tp.getD 1 0) % 16) * 65536) ||| ((tp.getD 2 0) * 256))) (nI_or _ _) ?_
  refine tw_aload_n C dX11_squeezeTape_48 1 rfl ?_
  refine tw_getR (q := 118) (k := 3) C dX11_squeezeTape_49 fc_X11 sh_114 (hM 114 (by decide) (by decide)) rfl (by decide) wd_114 ?_
  refine tw_iconst C dX11_squeezeTape_52 (v := nI 3) (by decide) ?_
  refine tw_iald (v := nI (tp.getD 3 0)) C dX11_squeezeTape_53 sn_118 sa_118 (hM 118 (by decide) (by decide)) (by omega) (by decide) (hI.2.1.1 3 (by omega)) ?_
  refine tw_ior C dX11_squeezeTape_54 (v := nI (((((tp.getD 1 0) % 16) * 65536) ||| ((tp.getD 2 0) * 256)) ||| (tp.getD 3 0))) (nI_or _ _) ?_
  refine TW.ti (y := nI (pkL tp)) (congrArg nI (pkL_or htb)) ?_
  refine tw_istore_n (L' := [(2, .int (nI (pkL tp))), (1, .int (nI (pkT tp))), (0, .ref (tw_ad G 114))]) C N dX11_squeezeTape_55 rfl (by decide) rfl ?_
  refine tw_iload_n C dX11_squeezeTape_56 0 rfl ?_
  refine tn_if_ne C dX11_squeezeTape_57 (tgt := 72) (by decide) (by omega) (fun c1 => ?_) (fun c1 => ?_)
  · skip
    refine tw_iload_n C dX11_squeezeTape_72 1 rfl ?_
    refine tw_iconst C dX11_squeezeTape_73 (v := nI 2) (by decide) ?_
    refine tw_ishr C dX11_squeezeTape_74 (v := nI ((pkT tp) / 4)) (nI_shr (by omega) 2 (by decide)) ?_
    refine tn_if_ne C dX11_squeezeTape_75 (tgt := 82) (by decide) (by omega) (fun c2 => ?_) (fun c2 => ?_)
    · skip
      refine tw_iconst C dX11_squeezeTape_82 (v := nI 0) (by decide) ?_
      refine tw_istore_n (L' := [(3, .int (nI 0)), (2, .int (nI (pkL tp))), (1, .int (nI (pkT tp))), (0, .ref (tw_ad G 114))]) C N dX11_squeezeTape_83 rfl (by decide) rfl ?_
      refine TW.c (L' := [(1, .int (nI (pkT tp))), (2, .int (nI (pkL tp))), (3, .int (nI (sqTF (pkT tp) (pkL tp)))), (0, .ref (tw_ad G 114))]) (by rw [show sqTF (pkT tp) (pkL tp) = 0 from by unfold sqTF; (repeat' split) <;> omega]; simp) ?_
      exact t84
    · skip
      refine tw_iconst C dX11_squeezeTape_78 (v := nI 1) (by decide) ?_
      refine tw_goto C dX11_squeezeTape_79 (tgt := 83) (by decide) ?_
      refine tw_istore_n (L' := [(3, .int (nI 1)), (2, .int (nI (pkL tp))), (1, .int (nI (pkT tp))), (0, .ref (tw_ad G 114))]) C N dX11_squeezeTape_83 rfl (by decide) rfl ?_
      refine TW.c (L' := [(1, .int (nI (pkT tp))), (2, .int (nI (pkL tp))), (3, .int (nI (sqTF (pkT tp) (pkL tp)))), (0, .ref (tw_ad G 114))]) (by rw [show sqTF (pkT tp) (pkL tp) = 1 from by unfold sqTF; (repeat' split) <;> omega]; simp) ?_
      exact t84
  · skip
    refine tw_iload_n C dX11_squeezeTape_60 1 rfl ?_
    refine tn_if_ne C dX11_squeezeTape_61 (tgt := 68) (by decide) (by omega) (fun c3 => ?_) (fun c3 => ?_)
    · skip
      refine tw_iconst C dX11_squeezeTape_68 (v := nI 2) (by decide) ?_
      refine tw_goto C dX11_squeezeTape_69 (tgt := 83) (by decide) ?_
      refine tw_istore_n (L' := [(3, .int (nI 2)), (2, .int (nI (pkL tp))), (1, .int (nI (pkT tp))), (0, .ref (tw_ad G 114))]) C N dX11_squeezeTape_83 rfl (by decide) rfl ?_
      refine TW.c (L' := [(1, .int (nI (pkT tp))), (2, .int (nI (pkL tp))), (3, .int (nI (sqTF (pkT tp) (pkL tp)))), (0, .ref (tw_ad G 114))]) (by rw [show sqTF (pkT tp) (pkL tp) = 2 from by unfold sqTF; (repeat' split) <;> omega]; simp) ?_
      exact t84
    · skip
      refine tw_iconst C dX11_squeezeTape_64 (v := nI 3) (by decide) ?_
      refine tw_goto C dX11_squeezeTape_65 (tgt := 83) (by decide) ?_
      refine tw_istore_n (L' := [(3, .int (nI 3)), (2, .int (nI (pkL tp))), (1, .int (nI (pkT tp))), (0, .ref (tw_ad G 114))]) C N dX11_squeezeTape_83 rfl (by decide) rfl ?_
      refine TW.c (L' := [(1, .int (nI (pkT tp))), (2, .int (nI (pkL tp))), (3, .int (nI (sqTF (pkT tp) (pkL tp)))), (0, .ref (tw_ad G 114))]) (by rw [show sqTF (pkT tp) (pkL tp) = 3 from by unfold sqTF; (repeat' split) <;> omega]; simp) ?_
      exact t84
