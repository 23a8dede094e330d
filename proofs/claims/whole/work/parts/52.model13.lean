/-! addresses, ports and the first bytes unfolded by the model -/
theorem be_pl : be 18338657682652659712 8 = [254, 128, 0, 0, 0, 0, 0, 0] := by decide
theorem BK_plain {f : Nat → Int32} {t : Nat} (hz : ∀ q, t ≤ q → q < t + 8 → f q = nI 0) : BK (upd (upd f t (nI (254 % 256))) (t + 1) (nI (128 % 256))) t (be 18338657682652659712 8) := by
  rw [be_pl]
  intro i hi
  rcases (show i = 0 ∨ i = 1 ∨ 2 ≤ i from by omega) with rfl | rfl | h2
  · simp [upd]
  · simp [upd]
  · have h8 : i < 8 := hi
    simp only [upd, show ¬ t + i = t + 1 by omega, show ¬ t + i = t by omega, if_false]
    rw [hz (t + i) (by omega) (by omega)]
    have h0 : ∀ i, i < 8 → 2 ≤ i → [254, 128, 0, 0, 0, 0, 0, 0].getD i 0 = 0 := by decide
    rw [h0 i h8 h2]
theorem BK_2 {f : Nat → Int32} {a x y : Nat} : BK (upd (upd f a (nI x)) (a + 1) (nI y)) a [x, y] := BK_at (X := [x]) (BK_at (X := []) (BK_nil f a) rfl) rfl
theorem uAd_lo {K : kN} {m w cx v : Nat} {bs : List Nat} (hb : ∀ x ∈ bs, x < 256) (hm : m < 8) (h : 0 < m % 4) (hcx : 4 < m → cx < 16 ∧ kT K cx = true) : uAd K m w cx bs v = be (if 4 < m then kV K cx else 18338657682652659712) 8 ++ ((lP8 K (m % 4) w).take (lsS (m % 4) - 8) ++ cutD bs v (16 - lsS (m % 4))) ∧ tabN m = 16 - lsS (m % 4) := by
  have e0 : uFe K m cx = if 4 < m then kV K cx else 18338657682652659712 := by
    unfold uFe
    by_cases h4 : 4 < m
    · rw [if_pos ⟨h4, hm⟩, if_pos h4, if_pos (hcx h4)]
    · rw [if_neg (fun g => h4 g.1), if_neg h4]
  have e1 : be (nb bs v 8) 8 = cutD bs v 8 := be_nb hb v 8
  have e2 : be (1099478073344 + nb bs v 2) 8 = [0, 0, 0, 255, 254, 0] ++ cutD bs v 2 := by
    have h1 := nb_lt hb v 2
    have h2 := be_sp (x := 16776704) (m := 6) h1
    rw [be_nb hb] at h2
    exact h2
  have e3 : (be (kO K w) 8).take 8 = be (kO K w) 8 := List.take_of_length_le (by rw [be_len]; exact Nat.le_refl _)
  unfold uAd
  rw [e0]
  rcases (show m = 1 ∨ m = 2 ∨ m = 3 ∨ m = 5 ∨ m = 6 ∨ m = 7 by omega) with rfl | rfl | rfl | rfl | rfl | rfl
  · exact ⟨congrArg (_ ++ ·) e1, rfl⟩
  · exact ⟨congrArg (_ ++ ·) e2, rfl⟩
  · exact ⟨congrArg (_ ++ ·) (e3.symm.trans (List.append_nil _).symm), rfl⟩
  · exact ⟨congrArg (_ ++ ·) e1, rfl⟩
  · exact ⟨congrArg (_ ++ ·) e2, rfl⟩
  · exact ⟨congrArg (_ ++ ·) (e3.symm.trans (List.append_nil _).symm), rfl⟩
theorem uAd_16 {K : kN} {m w cx v : Nat} {bs : List Nat} (hb : ∀ x ∈ bs, x < 256) (h : m = 0 ∨ m = 8) : uAd K m w cx bs v = cutD bs v 16 ∧ tabN m = 16 := by
  have h0 : tabN m = 16 := by rcases h with rfl | rfl <;> rfl
  refine ⟨?_, h0⟩
  rw [uAd, if_pos h0, be_nb hb, be_nb hb]
  exact (cutD_ad bs v 8 8).symm
theorem uAd_11 {K : kN} {w cx v : Nat} {bs : List Nat} : uAd K 11 w cx bs v = ([255, 2] ++ List.replicate 13 0) ++ cutD bs v 1 ∧ tabN 11 = 1 := ⟨rfl, rfl⟩
theorem uAd_m {K : kN} {m w cx v : Nat} {bs : List Nat} (hb : ∀ x ∈ bs, x < 256) (h : m = 9 ∨ m = 10) : uAd K m w cx bs v = ([255, bs.getD v 0] ++ List.replicate (if m = 9 then 9 else 11) 0) ++ cutD bs (v + 1) (if m = 9 then 5 else 3) ∧ tabN m = 1 + (if m = 9 then 5 else 3) := by
  have e : ∀ n, n ≤ 8 → be (nb bs (v + 1) n) 8 = List.replicate (8 - n) 0 ++ cutD bs (v + 1) n := by
    intro n hn
    have h1 := nb_lt hb (v + 1) n
    have h2 := be_sp (x := 0) (m := 8 - n) h1
    rw [Nat.zero_mul, Nat.zero_add, show 8 - n + n = 8 by omega, be_nb hb] at h2
    rw [h2]
    congr 1
    simp [be, Nat.zero_div, List.map_const']
  rcases h with rfl | rfl
  · refine ⟨?_, rfl⟩
    show [255, bs.getD v 0] ++ List.replicate 6 0 ++ be (nb bs (v + 1) 5) 8 = _
    rw [e 5 (by decide)]
    rfl
  · refine ⟨?_, rfl⟩
    show [255, bs.getD v 0] ++ List.replicate 6 0 ++ be (nb bs (v + 1) 3) 8 = _
    rw [e 3 (by decide)]
    rfl
theorem c_X11_unfoldSource {G : tw_G} (hM : tw_mG G) {K : kN} {B : tw_S} {f : Nat → Int32} {bs : List Nat} (hB : LA (tw_A B 121) bs) (h19 : tw_I B 114 19 = nI bs.length) (hbl : bs.length ≤ 640) {v : Nat} (hbb : ∀ x ∈ bs, x < 256) (hK : mK B K) {m c : Nat} (hm : m < 8) (hcx : c < 16) (hk : 4 < m → c < 16 ∧ kT K c = true) (h11 : tw_I B 114 11 = nI (m / 4)) (h12 : tw_I B 114 12 = nI (m % 4)) (hz : ∀ q, 8 ≤ q → q < 24 → f q = nI 0) : tw_M G yX11_unfoldSource cX11_unfoldSource 3 none 3 67 [.ref (tw_ad G 114), .int (nI c)] ((PU B f bs.length v)) ri_V (fun _ S' => ∃ g, S' = PU B g bs.length (v + tabN m) ∧ BK g 8 (uAd K m 0 c bs v) ∧ ∀ q, q < 8 ∨ 24 ≤ q → g q = f q) := by
  refine tw_M.of (L := [(0, .ref (tw_ad G 114)), (1, .int (nI c))]) (by decide) (Nat.le_of_ble_eq_true rfl) rfl (fun X C N Q => ?_)
  have C : tw_C G X cX11_unfoldSource RX11 := C
  have loop0 : m = 0 → ∀ (d : Nat) (k : Nat) (g : Nat → Int32) (_ : k + d = 16) (h1 : BK g 8 (cutD bs v k)) (h2 : ∀ q, q < 8 ∨ 24 ≤ q → g q = f q), TW G X (PU B g bs.length (v + k)) [(2, .int (nI k)), (0, .ref (tw_ad G 114)), (1, .int (nI c))] 9 [] := by
    intro hm0
    subst hm0
    intro d
    induction d with
    | zero =>
      intro k g hk h1 h2
      refine tw_iload_n C dX11_unfoldSource_9 0 rfl ?_
      refine tw_bipush C dX11_unfoldSource_10 (v := nI 16) (by decide) ?_
      refine tn_icmp_ge C dX11_unfoldSource_12 (tgt := 45) (by decide) (by omega) (by omega) (fun c1 => ?_) (fun c1 => ?_)
      · skip
        exact tw_return (v := ()) C Q dX11_unfoldSource_45 rfl rfl ⟨g, by rw [show k = 16 by omega]; rfl, by rw [show k = 16 by omega] at h1; rw [(uAd_16 hbb (Or.inl rfl)).1]; exact h1, h2⟩
      · exact absurd c1 (by omega)
    | succ d ih =>
      intro k g hk h1 h2
      refine tw_iload_n C dX11_unfoldSource_9 0 rfl ?_
      refine tw_bipush C dX11_unfoldSource_10 (v := nI 16) (by decide) ?_
      refine tn_icmp_ge C dX11_unfoldSource_12 (tgt := 45) (by decide) (by omega) (by omega) (fun c1 => ?_) (fun c1 => ?_)
      · exact absurd c1 (by omega)
      refine tw_aload_n C dX11_unfoldSource_15 1 rfl ?_
      refine tw_bipush C dX11_unfoldSource_16 (v := nI 8) (by decide) ?_
      refine tw_iload_n C dX11_unfoldSource_18 0 rfl ?_
      refine tw_iadd C dX11_unfoldSource_19 (v := nI (8 + k)) (nI_add _ _) ?_
      refine tw_aload_n C dX11_unfoldSource_20 1 rfl ?_
      refine tw_getI (v := nI 0) (k := 11) C dX11_unfoldSource_21 fc_X11 sh_114 (hM 114 (by decide) (by decide)) rfl (by decide) wd_393 h11 ?_
      refine tw_iconst C dX11_unfoldSource_24 (v := nI 1) (by decide) ?_
      refine tn_icmp_ne C dX11_unfoldSource_25 (tgt := 32) (by decide) (by omega) (by omega) (fun c2 => ?_) (fun c2 => ?_)
      · skip
        refine tw_aload_n C dX11_unfoldSource_32 1 rfl ?_
        refine tw_callV (As := []) (rest := [.int (nI (8 + k)), .ref (tw_ad G 114)]) C N (c_X11_next hM (B := B) (f := g) (bs := bs) (v := (v + k)) hB h19 hbl) mm_X11_next wd_593 rfl (hM 114 (by decide) (by decide)) sh_114 rfl (by decide) rfl (Nat.le_of_ble_eq_true rfl) dX11_unfoldSource_33 ?_
        rintro _ _ ⟨rfl, rfl⟩
        show TW G X (PU B g bs.length ((v + k) + 1)) [(2, .int (nI k)), (0, .ref (tw_ad G 114)), (1, .int (nI c))] 36 [.int (nI (bs.getD (v + k) 0)), .int (nI (8 + k)), .ref (tw_ad G 114)]
        refine tw_callV (As := [.int (nI (8 + k)), .int (nI (bs.getD (v + k) 0))]) (rest := []) C N (c_X11_set hM (B := B) (f := g) (L := bs.length) (v := ((v + k) + 1)) (i := 8 + k) (x := bs.getD (v + k) 0) (by omega)) mm_X11_set wd_605 rfl (hM 114 (by decide) (by decide)) sh_114 rfl (by decide) rfl (Nat.le_of_ble_eq_true rfl) dX11_unfoldSource_36 ?_
        rintro _ _ rfl
        show TW G X (PU B (upd g (8 + k) (nI ((bs.getD (v + k) 0) % 256))) bs.length ((v + k) + 1)) [(2, .int (nI k)), (0, .ref (tw_ad G 114)), (1, .int (nI c))] 39 []
        refine tw_iinc (k := 0) (v := nI (k + 1)) (L' := [(2, .int (nI (k + 1))), (0, .ref (tw_ad G 114)), (1, .int (nI c))]) C N dX11_unfoldSource_39 rfl (tn_inc1 _) (by decide) rfl ?_
        refine tw_goto C dX11_unfoldSource_42 (tgt := 9) (by decide) ?_
        refine TW.c (L' := [(2, .int (nI (k + 1))), (0, .ref (tw_ad G 114)), (1, .int (nI c))]) (by simp) ?_
        exact ih (k + 1) _ (by omega) (by rw [cutD_succ, gD_m hbb]; exact BK_at h1 (by simp only [cutD_len, List.length_replicate]; try omega)) (fun q hq => by simp only [upd, show ¬ q = 8 + k by omega, if_false]; exact h2 q hq)
      · exact absurd c2 (by decide)
  have loop4 : m = 4 → ∀ (d : Nat) (k : Nat) (g : Nat → Int32) (_ : k + d = 16) (h1 : BK g 8 (List.replicate k 0)) (h2 : ∀ q, q < 8 ∨ 24 ≤ q → g q = f q), TW G X (PU B g bs.length v) [(2, .int (nI k)), (0, .ref (tw_ad G 114)), (1, .int (nI c))] 9 [] := by
    intro hm0
    subst hm0
    intro d
    induction d with
    | zero =>
      intro k g hk h1 h2
      refine tw_iload_n C dX11_unfoldSource_9 0 rfl ?_
      refine tw_bipush C dX11_unfoldSource_10 (v := nI 16) (by decide) ?_
      refine tn_icmp_ge C dX11_unfoldSource_12 (tgt := 45) (by decide) (by omega) (by omega) (fun c1 => ?_) (fun c1 => ?_)
      · skip
        exact tw_return (v := ()) C Q dX11_unfoldSource_45 rfl rfl ⟨g, rfl, by rw [show k = 16 by omega] at h1; exact h1, h2⟩
      · exact absurd c1 (by omega)
    | succ d ih =>
      intro k g hk h1 h2
      refine tw_iload_n C dX11_unfoldSource_9 0 rfl ?_
      refine tw_bipush C dX11_unfoldSource_10 (v := nI 16) (by decide) ?_
      refine tn_icmp_ge C dX11_unfoldSource_12 (tgt := 45) (by decide) (by omega) (by omega) (fun c1 => ?_) (fun c1 => ?_)
      · exact absurd c1 (by omega)
      refine tw_aload_n C dX11_unfoldSource_15 1 rfl ?_
      refine tw_bipush C dX11_unfoldSource_16 (v := nI 8) (by decide) ?_
      refine tw_iload_n C dX11_unfoldSource_18 0 rfl ?_
      refine tw_iadd C dX11_unfoldSource_19 (v := nI (8 + k)) (nI_add _ _) ?_
      refine tw_aload_n C dX11_unfoldSource_20 1 rfl ?_
      refine tw_getI (v := nI 1) (k := 11) C dX11_unfoldSource_21 fc_X11 sh_114 (hM 114 (by decide) (by decide)) rfl (by decide) wd_393 h11 ?_
      refine tw_iconst C dX11_unfoldSource_24 (v := nI 1) (by decide) ?_
      refine tn_icmp_ne C dX11_unfoldSource_25 (tgt := 32) (by decide) (by omega) (by omega) (fun c2 => ?_) (fun c2 => ?_)
      · exact absurd c2 (by decide)
      refine tw_iconst C dX11_unfoldSource_28 (v := nI 0) (by decide) ?_
      refine tw_goto C dX11_unfoldSource_29 (tgt := 36) (by decide) ?_
      refine tw_callV (As := [.int (nI (8 + k)), .int (nI 0)]) (rest := []) C N (c_X11_set hM (B := B) (f := g) (L := bs.length) (v := v) (i := 8 + k) (x := 0) (by omega)) mm_X11_set wd_605 rfl (hM 114 (by decide) (by decide)) sh_114 rfl (by decide) rfl (Nat.le_of_ble_eq_true rfl) dX11_unfoldSource_36 ?_
      rintro _ _ rfl
      show TW G X (PU B (upd g (8 + k) (nI (0 % 256))) bs.length v) [(2, .int (nI k)), (0, .ref (tw_ad G 114)), (1, .int (nI c))] 39 []
      refine tw_iinc (k := 0) (v := nI (k + 1)) (L' := [(2, .int (nI (k + 1))), (0, .ref (tw_ad G 114)), (1, .int (nI c))]) C N dX11_unfoldSource_39 rfl (tn_inc1 _) (by decide) rfl ?_
      refine tw_goto C dX11_unfoldSource_42 (tgt := 9) (by decide) ?_
      refine TW.c (L' := [(2, .int (nI (k + 1))), (0, .ref (tw_ad G 114)), (1, .int (nI c))]) (by simp) ?_
      exact ih (k + 1) _ (by omega) (by rw [rep_succ]; exact BK_at h1 (by simp only [cutD_len, List.length_replicate]; try omega)) (fun q hq => by simp only [upd, show ¬ q = 8 + k by omega, if_false]; exact h2 q hq)
  rcases (show m = 0 ∨ m = 4 ∨ 0 < m % 4 by omega) with hm0 | hm0 | hm0
  · skip
    refine tw_aload_n C dX11_unfoldSource_0 0 rfl ?_
    refine tw_getI (v := nI (m % 4)) (k := 12) C dX11_unfoldSource_1 fc_X11 sh_114 (hM 114 (by decide) (by decide)) rfl (by decide) wd_394 h12 ?_
    refine tn_if_ne C dX11_unfoldSource_4 (tgt := 46) (by decide) (by omega) (fun c1 => ?_) (fun c1 => ?_)
    · exact absurd c1 (by omega)
    refine tw_iconst C dX11_unfoldSource_7 (v := nI 0) (by decide) ?_
    refine tw_istore_n (L' := [(2, .int (nI 0)), (0, .ref (tw_ad G 114)), (1, .int (nI c))]) C N dX11_unfoldSource_8 rfl (by decide) rfl ?_
    exact loop0 hm0 16 0 f rfl (BK_nil _ _) (fun q _ => rfl)
  · skip
    refine tw_aload_n C dX11_unfoldSource_0 0 rfl ?_
    refine tw_getI (v := nI (m % 4)) (k := 12) C dX11_unfoldSource_1 fc_X11 sh_114 (hM 114 (by decide) (by decide)) rfl (by decide) wd_394 h12 ?_
    refine tn_if_ne C dX11_unfoldSource_4 (tgt := 46) (by decide) (by omega) (fun c2 => ?_) (fun c2 => ?_)
    · exact absurd c2 (by omega)
    refine tw_iconst C dX11_unfoldSource_7 (v := nI 0) (by decide) ?_
    refine tw_istore_n (L' := [(2, .int (nI 0)), (0, .ref (tw_ad G 114)), (1, .int (nI c))]) C N dX11_unfoldSource_8 rfl (by decide) rfl ?_
    exact loop4 hm0 16 0 f rfl (BK_nil _ _) (fun q _ => rfl)
  · have ea := uAd_lo (K := K) (w := 0) (cx := c) (v := v) hbb hm hm0 hk
    refine tw_aload_n C dX11_unfoldSource_0 0 rfl ?_
    refine tw_getI (v := nI (m % 4)) (k := 12) C dX11_unfoldSource_1 fc_X11 sh_114 (hM 114 (by decide) (by decide)) rfl (by decide) wd_394 h12 ?_
    refine tn_if_ne C dX11_unfoldSource_4 (tgt := 46) (by decide) (by omega) (fun c3 => ?_) (fun c3 => ?_)
    · skip
      refine tw_aload_n C dX11_unfoldSource_46 0 rfl ?_
      refine tw_getI (v := nI (m / 4)) (k := 11) C dX11_unfoldSource_47 fc_X11 sh_114 (hM 114 (by decide) (by decide)) rfl (by decide) wd_393 h11 ?_
      refine tw_iconst C dX11_unfoldSource_50 (v := nI 1) (by decide) ?_
      refine tn_icmp_ne C dX11_unfoldSource_51 (tgt := 64) (by decide) (by omega) (by omega) (fun c4 => ?_) (fun c4 => ?_)
      · skip
        refine tw_aload_n C dX11_unfoldSource_64 0 rfl ?_
        refine tw_bipush C dX11_unfoldSource_65 (v := nI 8) (by decide) ?_
        refine tw_callV (As := [.int (nI 8)]) (rest := []) C N (c_X11_plain hM (B := B) (f := f) (bs := bs) (v := v) (t := 8) (by omega)) mm_X11_plain wd_617 rfl (hM 114 (by decide) (by decide)) sh_114 rfl (by decide) rfl (Nat.le_of_ble_eq_true rfl) dX11_unfoldSource_67 ?_
        rintro _ _ rfl
        show TW G X (PU B (upd (upd f 8 (nI (254 % 256))) (8 + 1) (nI (128 % 256))) bs.length v) [(0, .ref (tw_ad G 114)), (1, .int (nI c))] 70 []
        refine tw_aload_n C dX11_unfoldSource_70 0 rfl ?_
        refine tw_bipush C dX11_unfoldSource_71 (v := nI 8) (by decide) ?_
        refine tw_aload_n C dX11_unfoldSource_73 0 rfl ?_
        refine tw_getI (v := nI (m % 4)) (k := 12) C dX11_unfoldSource_74 fc_X11 sh_114 (hM 114 (by decide) (by decide)) rfl (by decide) wd_394 h12 ?_
        refine tw_iconst C dX11_unfoldSource_77 (v := nI 0) (by decide) ?_
        refine tw_callV (As := [.int (nI 8), .int (nI (m % 4)), .int (nI 0)]) (rest := []) C N (c_X11_lasts hM (K := K) (B := B) (f := (upd (upd f 8 (nI (254 % 256))) (8 + 1) (nI (128 % 256)))) (bs := bs) hB h19 hbl (v := v) hbb hK (t := 8) (m := m % 4) (w := 0) (by omega) (by omega) (by omega)) mm_X11_lasts wd_621 rfl (hM 114 (by decide) (by decide)) sh_114 rfl (by decide) rfl (Nat.le_of_ble_eq_true rfl) dX11_unfoldSource_78 ?_
        rintro _ _ ⟨g6, rfl, hbg6, hfg6⟩
        show TW G X (PU B g6 bs.length (v + (16 - lsS (m % 4)))) [(0, .ref (tw_ad G 114)), (1, .int (nI c))] 81 []
        exact tw_return (v := ()) C Q dX11_unfoldSource_81 rfl rfl ⟨g6, by rw [ea.2], by rw [ea.1, if_neg (by omega)]; exact BK_app (BK_cg (BK_plain (fun q h3 h4 => hz q (by omega) (by omega))) (fun q h3 h4 => hfg6 q (by rw [be_len] at h4; omega))) (by rw [be_len]; exact hbg6), fun q hq => (hfg6 q (by omega)).trans (by simp only [upd, show ¬ q = 8 + 1 by omega, show ¬ q = 8 by omega, if_false])⟩
      · skip
        refine tw_aload_n C dX11_unfoldSource_54 0 rfl ?_
        refine tw_bipush C dX11_unfoldSource_55 (v := nI 8) (by decide) ?_
        refine tw_iload_n C dX11_unfoldSource_57 1 rfl ?_
        refine tw_callV (As := [.int (nI 8), .int (nI c)]) (rest := []) C N (c_X11_fromContext hM (B := B) (K := K) hK (f := f) (bs := bs) (v := v) (t := 8) (c := c) (by omega) hcx) mm_X11_fromContext wd_613 rfl (hM 114 (by decide) (by decide)) sh_114 rfl (by decide) rfl (Nat.le_of_ble_eq_true rfl) dX11_unfoldSource_58 ?_
        rintro _ _ ⟨g8, rfl, hbg8, hfg8⟩
        show TW G X (PU B g8 bs.length v) [(0, .ref (tw_ad G 114)), (1, .int (nI c))] 61 []
        refine tw_goto C dX11_unfoldSource_61 (tgt := 70) (by decide) ?_
        refine tw_aload_n C dX11_unfoldSource_70 0 rfl ?_
        refine tw_bipush C dX11_unfoldSource_71 (v := nI 8) (by decide) ?_
        refine tw_aload_n C dX11_unfoldSource_73 0 rfl ?_
        refine tw_getI (v := nI (m % 4)) (k := 12) C dX11_unfoldSource_74 fc_X11 sh_114 (hM 114 (by decide) (by decide)) rfl (by decide) wd_394 h12 ?_
        refine tw_iconst C dX11_unfoldSource_77 (v := nI 0) (by decide) ?_
        refine tw_callV (As := [.int (nI 8), .int (nI (m % 4)), .int (nI 0)]) (rest := []) C N (c_X11_lasts hM (K := K) (B := B) (f := g8) (bs := bs) hB h19 hbl (v := v) hbb hK (t := 8) (m := m % 4) (w := 0) (by omega) (by omega) (by omega)) mm_X11_lasts wd_621 rfl (hM 114 (by decide) (by decide)) sh_114 rfl (by decide) rfl (Nat.le_of_ble_eq_true rfl) dX11_unfoldSource_78 ?_
        rintro _ _ ⟨g10, rfl, hbg10, hfg10⟩
        show TW G X (PU B g10 bs.length (v + (16 - lsS (m % 4)))) [(0, .ref (tw_ad G 114)), (1, .int (nI c))] 81 []
        exact tw_return (v := ()) C Q dX11_unfoldSource_81 rfl rfl ⟨g10, by rw [ea.2], by rw [ea.1, if_pos (by omega)]; exact BK_app (BK_cg (hbg8) (fun q h3 h4 => hfg10 q (by rw [be_len] at h4; omega))) (by rw [be_len]; exact hbg10), fun q hq => (hfg10 q (by omega)).trans (hfg8 q (by omega))⟩
    · exact absurd c3 (by omega)
theorem c_X11_unfoldGoal {G : tw_G} (hM : tw_mG G) {K : kN} {B : tw_S} {f : Nat → Int32} {bs : List Nat} (hB : LA (tw_A B 121) bs) (h19 : tw_I B 114 19 = nI bs.length) (hbl : bs.length ≤ 640) {v : Nat} (hbb : ∀ x ∈ bs, x < 256) (hK : mK B K) {m c : Nat} (hm : m < 12) (hm4 : m ≠ 4) (hcx : c < 16) (hk : 4 < m → m < 8 → c < 16 ∧ kT K c = true) (h14 : tw_I B 114 14 = nI (m / 8)) (h15 : tw_I B 114 15 = nI (m / 4 % 2)) (h16 : tw_I B 114 16 = nI (m % 4)) (hz : ∀ q, 24 ≤ q → q < 40 → f q = nI 0) : tw_M G yX11_unfoldGoal cX11_unfoldGoal 3 none 3 67 [.ref (tw_ad G 114), .int (nI c)] ((PU B f bs.length v)) ri_V (fun _ S' => ∃ g, S' = PU B g bs.length (v + tabN m) ∧ BK g 24 (uAd K m 1 c bs v) ∧ ∀ q, q < 24 ∨ 40 ≤ q → g q = f q) := by
  refine tw_M.of (L := [(0, .ref (tw_ad G 114)), (1, .int (nI c))]) (by decide) (Nat.le_of_ble_eq_true rfl) rfl (fun X C N Q => ?_)
  have C : tw_C G X cX11_unfoldGoal RX11 := C
  have loopg : m = 0 ∨ m = 8 → ∀ (d : Nat) (k : Nat) (g : Nat → Int32) (_ : k + d = 16) (h1 : BK g 24 (cutD bs v k)) (h2 : ∀ q, q < 24 ∨ 40 ≤ q → g q = f q), TW G X (PU B g bs.length (v + k)) [(2, .int (nI k)), (0, .ref (tw_ad G 114)), (1, .int (nI c))] 61 [] := by
    intro hm0 d
    induction d with
    | zero =>
      intro k g hk h1 h2
      refine tw_iload_n C dX11_unfoldGoal_61 0 rfl ?_
      refine tw_bipush C dX11_unfoldGoal_62 (v := nI 16) (by decide) ?_
      refine tn_icmp_ge C dX11_unfoldGoal_64 (tgt := 85) (by decide) (by omega) (by omega) (fun c1 => ?_) (fun c1 => ?_)
      · skip
        refine tw_goto C dX11_unfoldGoal_85 (tgt := 169) (by decide) ?_
        exact tw_return (v := ()) C Q dX11_unfoldGoal_169 rfl rfl ⟨g, by rw [show k = 16 by omega, (uAd_16 (K := K) (w := 1) (cx := c) (v := v) hbb hm0).2], by rw [show k = 16 by omega] at h1; rw [(uAd_16 hbb hm0).1]; exact h1, h2⟩
      · exact absurd c1 (by omega)
    | succ d ih =>
      intro k g hk h1 h2
      refine tw_iload_n C dX11_unfoldGoal_61 0 rfl ?_
      refine tw_bipush C dX11_unfoldGoal_62 (v := nI 16) (by decide) ?_
      refine tn_icmp_ge C dX11_unfoldGoal_64 (tgt := 85) (by decide) (by omega) (by omega) (fun c1 => ?_) (fun c1 => ?_)
      · exact absurd c1 (by omega)
      refine tw_aload_n C dX11_unfoldGoal_67 1 rfl ?_
      refine tw_bipush C dX11_unfoldGoal_68 (v := nI 24) (by decide) ?_
      refine tw_iload_n C dX11_unfoldGoal_70 0 rfl ?_
      refine tw_iadd C dX11_unfoldGoal_71 (v := nI (24 + k)) (nI_add _ _) ?_
      refine tw_aload_n C dX11_unfoldGoal_72 1 rfl ?_
      refine tw_callV (As := []) (rest := [.int (nI (24 + k)), .ref (tw_ad G 114)]) C N (c_X11_next hM (B := B) (f := g) (bs := bs) (v := (v + k)) hB h19 hbl) mm_X11_next wd_593 rfl (hM 114 (by decide) (by decide)) sh_114 rfl (by decide) rfl (Nat.le_of_ble_eq_true rfl) dX11_unfoldGoal_73 ?_
      rintro _ _ ⟨rfl, rfl⟩
      show TW G X (PU B g bs.length ((v + k) + 1)) [(2, .int (nI k)), (0, .ref (tw_ad G 114)), (1, .int (nI c))] 76 [.int (nI (bs.getD (v + k) 0)), .int (nI (24 + k)), .ref (tw_ad G 114)]
      refine tw_callV (As := [.int (nI (24 + k)), .int (nI (bs.getD (v + k) 0))]) (rest := []) C N (c_X11_set hM (B := B) (f := g) (L := bs.length) (v := ((v + k) + 1)) (i := 24 + k) (x := bs.getD (v + k) 0) (by omega)) mm_X11_set wd_605 rfl (hM 114 (by decide) (by decide)) sh_114 rfl (by decide) rfl (Nat.le_of_ble_eq_true rfl) dX11_unfoldGoal_76 ?_
      rintro _ _ rfl
      show TW G X (PU B (upd g (24 + k) (nI ((bs.getD (v + k) 0) % 256))) bs.length ((v + k) + 1)) [(2, .int (nI k)), (0, .ref (tw_ad G 114)), (1, .int (nI c))] 79 []
      refine tw_iinc (k := 0) (v := nI (k + 1)) (L' := [(2, .int (nI (k + 1))), (0, .ref (tw_ad G 114)), (1, .int (nI c))]) C N dX11_unfoldGoal_79 rfl (tn_inc1 _) (by decide) rfl ?_
      refine tw_goto C dX11_unfoldGoal_82 (tgt := 61) (by decide) ?_
      refine TW.c (L' := [(2, .int (nI (k + 1))), (0, .ref (tw_ad G 114)), (1, .int (nI c))]) (by simp) ?_
      exact ih (k + 1) _ (by omega) (by rw [cutD_succ, gD_m hbb]; exact BK_at h1 (by simp only [cutD_len, List.length_replicate]; try omega)) (fun q hq => by simp only [upd, show ¬ q = 24 + k by omega, if_false]; exact h2 q hq)
  have looph : ∀ (s u x : Nat) (_ : 26 ≤ s) (_ : s ≤ 40) (_ : (([255, x] ++ List.replicate (s - 26) 0) ++ cutD bs u (40 - s)) = uAd K m 1 c bs v) (_ : u + (40 - s) = v + tabN m), ∀ (d : Nat) (j : Nat) (g : Nat → Int32) (_ : s + j + d = 40) (h1 : BK g 24 (([255, x] ++ List.replicate (s - 26) 0) ++ cutD bs u j)) (h2 : ∀ q, q < 24 ∨ 40 ≤ q → g q = f q), TW G X (PU B g bs.length (u + j)) [(2, .int (nI (s + j))), (0, .ref (tw_ad G 114)), (1, .int (nI c))] 148 [] := by
    intro s u x hs26 hs40 hfin hu d
    induction d with
    | zero =>
      intro j g hj h1 h2
      refine tw_iload_n C dX11_unfoldGoal_148 0 rfl ?_
      refine tw_bipush C dX11_unfoldGoal_149 (v := nI 40) (by decide) ?_
      refine tn_icmp_ge C dX11_unfoldGoal_151 (tgt := 169) (by decide) (by omega) (by omega) (fun c1 => ?_) (fun c1 => ?_)
      · skip
        exact tw_return (v := ()) C Q dX11_unfoldGoal_169 rfl rfl ⟨g, by rw [← hu, show 40 - s = j by omega], by rw [← hfin, show 40 - s = j by omega]; exact h1, h2⟩
      · exact absurd c1 (by omega)
    | succ d ih =>
      intro j g hj h1 h2
      refine tw_iload_n C dX11_unfoldGoal_148 0 rfl ?_
      refine tw_bipush C dX11_unfoldGoal_149 (v := nI 40) (by decide) ?_
      refine tn_icmp_ge C dX11_unfoldGoal_151 (tgt := 169) (by decide) (by omega) (by omega) (fun c1 => ?_) (fun c1 => ?_)
      · exact absurd c1 (by omega)
      refine tw_aload_n C dX11_unfoldGoal_154 1 rfl ?_
      refine tw_iload_n C dX11_unfoldGoal_155 0 rfl ?_
      refine tw_aload_n C dX11_unfoldGoal_156 1 rfl ?_
      refine tw_callV (As := []) (rest := [.int (nI (s + j)), .ref (tw_ad G 114)]) C N (c_X11_next hM (B := B) (f := g) (bs := bs) (v := (u + j)) hB h19 hbl) mm_X11_next wd_593 rfl (hM 114 (by decide) (by decide)) sh_114 rfl (by decide) rfl (Nat.le_of_ble_eq_true rfl) dX11_unfoldGoal_157 ?_
      rintro _ _ ⟨rfl, rfl⟩
      show TW G X (PU B g bs.length ((u + j) + 1)) [(2, .int (nI (s + j))), (0, .ref (tw_ad G 114)), (1, .int (nI c))] 160 [.int (nI (bs.getD (u + j) 0)), .int (nI (s + j)), .ref (tw_ad G 114)]
      refine tw_callV (As := [.int (nI (s + j)), .int (nI (bs.getD (u + j) 0))]) (rest := []) C N (c_X11_set hM (B := B) (f := g) (L := bs.length) (v := ((u + j) + 1)) (i := s + j) (x := bs.getD (u + j) 0) (by omega)) mm_X11_set wd_605 rfl (hM 114 (by decide) (by decide)) sh_114 rfl (by decide) rfl (Nat.le_of_ble_eq_true rfl) dX11_unfoldGoal_160 ?_
      rintro _ _ rfl
      show TW G X (PU B (upd g (s + j) (nI ((bs.getD (u + j) 0) % 256))) bs.length ((u + j) + 1)) [(2, .int (nI (s + j))), (0, .ref (tw_ad G 114)), (1, .int (nI c))] 163 []
      refine tw_iinc (k := 0) (v := nI (s + j + 1)) (L' := [(2, .int (nI (s + j + 1))), (0, .ref (tw_ad G 114)), (1, .int (nI c))]) C N dX11_unfoldGoal_163 rfl (tn_inc1 _) (by decide) rfl ?_
      refine tw_goto C dX11_unfoldGoal_166 (tgt := 148) (by decide) ?_
      refine TW.c (L' := [(2, .int (nI (s + (j + 1)))), (0, .ref (tw_ad G 114)), (1, .int (nI c))]) (by simp [Nat.add_assoc]) ?_
      exact ih (j + 1) _ (by omega) (by rw [cutD_succ, gD_m hbb, ← List.append_assoc]; exact BK_at h1 (by simp only [List.length_append, List.length_cons, List.length_nil, cutD_len, List.length_replicate]; omega)) (fun q hq => by simp only [upd, show ¬ q = s + j by omega, if_false]; exact h2 q hq)
  rcases (show (m = 0 ∨ m = 8) ∨ (m < 8 ∧ 0 < m % 4) ∨ 8 < m by omega) with hm0 | ⟨hm8, hm0⟩ | hm0
  · skip
    refine tw_aload_n C dX11_unfoldGoal_0 0 rfl ?_
    refine tw_getI (v := nI (m / 8)) (k := 14) C dX11_unfoldGoal_1 fc_X11 sh_114 (hM 114 (by decide) (by decide)) rfl (by decide) wd_395 h14 ?_
    refine tn_if_ne C dX11_unfoldGoal_4 (tgt := 52) (by decide) (by omega) (fun c1 => ?_) (fun c1 => ?_)
    · skip
      refine tw_aload_n C dX11_unfoldGoal_52 0 rfl ?_
      refine tw_getI (v := nI (m % 4)) (k := 16) C dX11_unfoldGoal_53 fc_X11 sh_114 (hM 114 (by decide) (by decide)) rfl (by decide) wd_397 h16 ?_
      refine tn_if_ne C dX11_unfoldGoal_56 (tgt := 88) (by decide) (by omega) (fun c2 => ?_) (fun c2 => ?_)
      · exact absurd c2 (by omega)
      refine tw_iconst C dX11_unfoldGoal_59 (v := nI 0) (by decide) ?_
      refine tw_istore_n (L' := [(2, .int (nI 0)), (0, .ref (tw_ad G 114)), (1, .int (nI c))]) C N dX11_unfoldGoal_60 rfl (by decide) rfl ?_
      exact loopg hm0 16 0 f rfl (BK_nil _ _) (fun q _ => rfl)
    · skip
      refine tw_aload_n C dX11_unfoldGoal_7 0 rfl ?_
      refine tw_getI (v := nI (m % 4)) (k := 16) C dX11_unfoldGoal_8 fc_X11 sh_114 (hM 114 (by decide) (by decide)) rfl (by decide) wd_397 h16 ?_
      refine tn_if_le C dX11_unfoldGoal_11 (tgt := 52) (by decide) (by omega) (fun c3 => ?_) (fun c3 => ?_)
      · skip
        refine tw_aload_n C dX11_unfoldGoal_52 0 rfl ?_
        refine tw_getI (v := nI (m % 4)) (k := 16) C dX11_unfoldGoal_53 fc_X11 sh_114 (hM 114 (by decide) (by decide)) rfl (by decide) wd_397 h16 ?_
        refine tn_if_ne C dX11_unfoldGoal_56 (tgt := 88) (by decide) (by omega) (fun c4 => ?_) (fun c4 => ?_)
        · exact absurd c4 (by omega)
        refine tw_iconst C dX11_unfoldGoal_59 (v := nI 0) (by decide) ?_
        refine tw_istore_n (L' := [(2, .int (nI 0)), (0, .ref (tw_ad G 114)), (1, .int (nI c))]) C N dX11_unfoldGoal_60 rfl (by decide) rfl ?_
        exact loopg hm0 16 0 f rfl (BK_nil _ _) (fun q _ => rfl)
      · exact absurd c3 (by omega)
  · have ea := uAd_lo (K := K) (w := 1) (cx := c) (v := v) hbb hm8 hm0 (fun h => hk h hm8)
    refine tw_aload_n C dX11_unfoldGoal_0 0 rfl ?_
    refine tw_getI (v := nI (m / 8)) (k := 14) C dX11_unfoldGoal_1 fc_X11 sh_114 (hM 114 (by decide) (by decide)) rfl (by decide) wd_395 h14 ?_
    refine tn_if_ne C dX11_unfoldGoal_4 (tgt := 52) (by decide) (by omega) (fun c5 => ?_) (fun c5 => ?_)
    · exact absurd c5 (by omega)
    refine tw_aload_n C dX11_unfoldGoal_7 0 rfl ?_
    refine tw_getI (v := nI (m % 4)) (k := 16) C dX11_unfoldGoal_8 fc_X11 sh_114 (hM 114 (by decide) (by decide)) rfl (by decide) wd_397 h16 ?_
    refine tn_if_le C dX11_unfoldGoal_11 (tgt := 52) (by decide) (by omega) (fun c6 => ?_) (fun c6 => ?_)
    · exact absurd c6 (by omega)
    refine tw_aload_n C dX11_unfoldGoal_14 0 rfl ?_
    refine tw_getI (v := nI (m / 4 % 2)) (k := 15) C dX11_unfoldGoal_15 fc_X11 sh_114 (hM 114 (by decide) (by decide)) rfl (by decide) wd_396 h15 ?_
    refine tw_iconst C dX11_unfoldGoal_18 (v := nI 1) (by decide) ?_
    refine tn_icmp_ne C dX11_unfoldGoal_19 (tgt := 32) (by decide) (by omega) (by omega) (fun c7 => ?_) (fun c7 => ?_)
    · skip
      refine tw_aload_n C dX11_unfoldGoal_32 0 rfl ?_
      refine tw_bipush C dX11_unfoldGoal_33 (v := nI 24) (by decide) ?_
      refine tw_callV (As := [.int (nI 24)]) (rest := []) C N (c_X11_plain hM (B := B) (f := f) (bs := bs) (v := v) (t := 24) (by omega)) mm_X11_plain wd_617 rfl (hM 114 (by decide) (by decide)) sh_114 rfl (by decide) rfl (Nat.le_of_ble_eq_true rfl) dX11_unfoldGoal_35 ?_
      rintro _ _ rfl
      show TW G X (PU B (upd (upd f 24 (nI (254 % 256))) (24 + 1) (nI (128 % 256))) bs.length v) [(0, .ref (tw_ad G 114)), (1, .int (nI c))] 38 []
      refine tw_aload_n C dX11_unfoldGoal_38 0 rfl ?_
      refine tw_bipush C dX11_unfoldGoal_39 (v := nI 24) (by decide) ?_
      refine tw_aload_n C dX11_unfoldGoal_41 0 rfl ?_
      refine tw_getI (v := nI (m % 4)) (k := 16) C dX11_unfoldGoal_42 fc_X11 sh_114 (hM 114 (by decide) (by decide)) rfl (by decide) wd_397 h16 ?_
      refine tw_iconst C dX11_unfoldGoal_45 (v := nI 1) (by decide) ?_
      refine tw_callV (As := [.int (nI 24), .int (nI (m % 4)), .int (nI 1)]) (rest := []) C N (c_X11_lasts hM (K := K) (B := B) (f := (upd (upd f 24 (nI (254 % 256))) (24 + 1) (nI (128 % 256)))) (bs := bs) hB h19 hbl (v := v) hbb hK (t := 24) (m := m % 4) (w := 1) (by omega) (by omega) (by omega)) mm_X11_lasts wd_621 rfl (hM 114 (by decide) (by decide)) sh_114 rfl (by decide) rfl (Nat.le_of_ble_eq_true rfl) dX11_unfoldGoal_46 ?_
      rintro _ _ ⟨g9, rfl, hbg9, hfg9⟩
      show TW G X (PU B g9 bs.length (v + (16 - lsS (m % 4)))) [(0, .ref (tw_ad G 114)), (1, .int (nI c))] 49 []
      refine tw_goto C dX11_unfoldGoal_49 (tgt := 169) (by decide) ?_
      exact tw_return (v := ()) C Q dX11_unfoldGoal_169 rfl rfl ⟨g9, by rw [ea.2], by rw [ea.1, if_neg (by omega)]; exact BK_app (BK_cg (BK_plain (fun q h3 h4 => hz q (by omega) (by omega))) (fun q h3 h4 => hfg9 q (by rw [be_len] at h4; omega))) (by rw [be_len]; exact hbg9), fun q hq => (hfg9 q (by omega)).trans (by simp only [upd, show ¬ q = 24 + 1 by omega, show ¬ q = 24 by omega, if_false])⟩
    · skip
      refine tw_aload_n C dX11_unfoldGoal_22 0 rfl ?_
      refine tw_bipush C dX11_unfoldGoal_23 (v := nI 24) (by decide) ?_
      refine tw_iload_n C dX11_unfoldGoal_25 1 rfl ?_
      refine tw_callV (As := [.int (nI 24), .int (nI c)]) (rest := []) C N (c_X11_fromContext hM (B := B) (K := K) hK (f := f) (bs := bs) (v := v) (t := 24) (c := c) (by omega) hcx) mm_X11_fromContext wd_613 rfl (hM 114 (by decide) (by decide)) sh_114 rfl (by decide) rfl (Nat.le_of_ble_eq_true rfl) dX11_unfoldGoal_26 ?_
      rintro _ _ ⟨g11, rfl, hbg11, hfg11⟩
      show TW G X (PU B g11 bs.length v) [(0, .ref (tw_ad G 114)), (1, .int (nI c))] 29 []
      refine tw_goto C dX11_unfoldGoal_29 (tgt := 38) (by decide) ?_
      refine tw_aload_n C dX11_unfoldGoal_38 0 rfl ?_
      refine tw_bipush C dX11_unfoldGoal_39 (v := nI 24) (by decide) ?_
      refine tw_aload_n C dX11_unfoldGoal_41 0 rfl ?_
      refine tw_getI (v := nI (m % 4)) (k := 16) C dX11_unfoldGoal_42 fc_X11 sh_114 (hM 114 (by decide) (by decide)) rfl (by decide) wd_397 h16 ?_
      refine tw_iconst C dX11_unfoldGoal_45 (v := nI 1) (by decide) ?_
      refine tw_callV (As := [.int (nI 24), .int (nI (m % 4)), .int (nI 1)]) (rest := []) C N (c_X11_lasts hM (K := K) (B := B) (f := g11) (bs := bs) hB h19 hbl (v := v) hbb hK (t := 24) (m := m % 4) (w := 1) (by omega) (by omega) (by omega)) mm_X11_lasts wd_621 rfl (hM 114 (by decide) (by decide)) sh_114 rfl (by decide) rfl (Nat.le_of_ble_eq_true rfl) dX11_unfoldGoal_46 ?_
      rintro _ _ ⟨g13, rfl, hbg13, hfg13⟩
      show TW G X (PU B g13 bs.length (v + (16 - lsS (m % 4)))) [(0, .ref (tw_ad G 114)), (1, .int (nI c))] 49 []
      refine tw_goto C dX11_unfoldGoal_49 (tgt := 169) (by decide) ?_
      exact tw_return (v := ()) C Q dX11_unfoldGoal_169 rfl rfl ⟨g13, by rw [ea.2], by rw [ea.1, if_pos (by omega)]; exact BK_app (BK_cg (hbg11) (fun q h3 h4 => hfg13 q (by rw [be_len] at h4; omega))) (by rw [be_len]; exact hbg13), fun q hq => (hfg13 q (by omega)).trans (hfg11 q (by omega))⟩
  · skip
    refine tw_aload_n C dX11_unfoldGoal_0 0 rfl ?_
    refine tw_getI (v := nI (m / 8)) (k := 14) C dX11_unfoldGoal_1 fc_X11 sh_114 (hM 114 (by decide) (by decide)) rfl (by decide) wd_395 h14 ?_
    refine tn_if_ne C dX11_unfoldGoal_4 (tgt := 52) (by decide) (by omega) (fun c15 => ?_) (fun c15 => ?_)
    · skip
      refine tw_aload_n C dX11_unfoldGoal_52 0 rfl ?_
      refine tw_getI (v := nI (m % 4)) (k := 16) C dX11_unfoldGoal_53 fc_X11 sh_114 (hM 114 (by decide) (by decide)) rfl (by decide) wd_397 h16 ?_
      refine tn_if_ne C dX11_unfoldGoal_56 (tgt := 88) (by decide) (by omega) (fun c16 => ?_) (fun c16 => ?_)
      · skip
        refine tw_aload_n C dX11_unfoldGoal_88 0 rfl ?_
        refine tw_bipush C dX11_unfoldGoal_89 (v := nI 24) (by decide) ?_
        refine tw_sipush C dX11_unfoldGoal_91 (v := nI 255) (by decide) ?_
        refine tw_callV (As := [.int (nI 24), .int (nI 255)]) (rest := []) C N (c_X11_set hM (B := B) (f := f) (L := bs.length) (v := v) (i := 24) (x := 255) (by omega)) mm_X11_set wd_605 rfl (hM 114 (by decide) (by decide)) sh_114 rfl (by decide) rfl (Nat.le_of_ble_eq_true rfl) dX11_unfoldGoal_94 ?_
        rintro _ _ rfl
        show TW G X (PU B (upd f 24 (nI (255 % 256))) bs.length v) [(0, .ref (tw_ad G 114)), (1, .int (nI c))] 97 []
        refine tw_aload_n C dX11_unfoldGoal_97 0 rfl ?_
        refine tw_bipush C dX11_unfoldGoal_98 (v := nI 25) (by decide) ?_
        refine tw_aload_n C dX11_unfoldGoal_100 0 rfl ?_
        refine tw_getI (v := nI (m % 4)) (k := 16) C dX11_unfoldGoal_101 fc_X11 sh_114 (hM 114 (by decide) (by decide)) rfl (by decide) wd_397 h16 ?_
        refine tw_iconst C dX11_unfoldGoal_104 (v := nI 3) (by decide) ?_
        refine tn_icmp_ne C dX11_unfoldGoal_105 (tgt := 112) (by decide) (by omega) (by omega) (fun c18 => ?_) (fun c18 => ?_)
        · skip
          refine tw_aload_n C dX11_unfoldGoal_112 0 rfl ?_
          refine tw_callV (As := []) (rest := [.int (nI 25), .ref (tw_ad G 114)]) C N (c_X11_next hM (B := B) (f := (upd f 24 (nI (255 % 256)))) (bs := bs) (v := v) hB h19 hbl) mm_X11_next wd_593 rfl (hM 114 (by decide) (by decide)) sh_114 rfl (by decide) rfl (Nat.le_of_ble_eq_true rfl) dX11_unfoldGoal_113 ?_
          rintro _ _ ⟨rfl, rfl⟩
          show TW G X (PU B (upd f 24 (nI (255 % 256))) bs.length (v + 1)) [(0, .ref (tw_ad G 114)), (1, .int (nI c))] 116 [.int (nI (bs.getD v 0)), .int (nI 25), .ref (tw_ad G 114)]
          refine tw_callV (As := [.int (nI 25), .int (nI (bs.getD v 0))]) (rest := []) C N (c_X11_set hM (B := B) (f := (upd f 24 (nI (255 % 256)))) (L := bs.length) (v := (v + 1)) (i := 25) (x := bs.getD v 0) (by omega)) mm_X11_set wd_605 rfl (hM 114 (by decide) (by decide)) sh_114 rfl (by decide) rfl (Nat.le_of_ble_eq_true rfl) dX11_unfoldGoal_116 ?_
          rintro _ _ rfl
          show TW G X (PU B (upd (upd f 24 (nI (255 % 256))) 25 (nI ((bs.getD v 0) % 256))) bs.length (v + 1)) [(0, .ref (tw_ad G 114)), (1, .int (nI c))] 119 []
          refine tw_aload_n C dX11_unfoldGoal_119 0 rfl ?_
          refine tw_getI (v := nI (m % 4)) (k := 16) C dX11_unfoldGoal_120 fc_X11 sh_114 (hM 114 (by decide) (by decide)) rfl (by decide) wd_397 h16 ?_
          refine tw_iconst C dX11_unfoldGoal_123 (v := nI 1) (by decide) ?_
          refine tn_icmp_ne C dX11_unfoldGoal_124 (tgt := 132) (by decide) (by omega) (by omega) (fun c21 => ?_) (fun c21 => ?_)
          · skip
            refine tw_aload_n C dX11_unfoldGoal_132 0 rfl ?_
            refine tw_getI (v := nI (m % 4)) (k := 16) C dX11_unfoldGoal_133 fc_X11 sh_114 (hM 114 (by decide) (by decide)) rfl (by decide) wd_397 h16 ?_
            refine tw_iconst C dX11_unfoldGoal_136 (v := nI 2) (by decide) ?_
            refine tn_icmp_ne C dX11_unfoldGoal_137 (tgt := 145) (by decide) (by omega) (by omega) (fun c22 => ?_) (fun c22 => ?_)
            · skip
              refine tw_bipush C dX11_unfoldGoal_145 (v := nI 39) (by decide) ?_
              refine tw_istore_n (L' := [(2, .int (nI 39)), (0, .ref (tw_ad G 114)), (1, .int (nI c))]) C N dX11_unfoldGoal_147 rfl (by decide) rfl ?_
              exfalso
              omega
            · skip
              refine tw_bipush C dX11_unfoldGoal_140 (v := nI 37) (by decide) ?_
              refine tw_goto C dX11_unfoldGoal_142 (tgt := 147) (by decide) ?_
              refine tw_istore_n (L' := [(2, .int (nI 37)), (0, .ref (tw_ad G 114)), (1, .int (nI c))]) C N dX11_unfoldGoal_147 rfl (by decide) rfl ?_
              have hm1 : m = 10 := by omega
              subst hm1
              have ea := uAd_m (K := K) (w := 1) (cx := c) (v := v) hbb (m := 10) (by decide)
              rw [gD_m hbb v]
              refine TW.c (L' := [(2, .int (nI (37 + 0))), (0, .ref (tw_ad G 114)), (1, .int (nI c))]) (by simp) ?_
              exact looph 37 (v + 1) (bs.getD v 0) (by decide) (by decide) ea.1.symm (by first | (rw [ea.2]; done) | (rw [ea.2]; rfl) | rfl) 3 0 _ rfl (by rw [show cutD bs (v + 1) 0 = [] from rfl, List.append_nil]; exact BK_app (BK_2 (x := 255) (y := bs.getD v 0)) (BK_0 (fun q h3 h4 => by simp only [List.length_cons, List.length_nil] at h3 h4; simp only [upd, show ¬ q = 24 by omega, show ¬ q = 25 by omega, if_false]; exact hz q (by omega) (by omega)))) (fun q hq => by simp only [upd, show ¬ q = 24 by omega, show ¬ q = 25 by omega, if_false])
          · skip
            refine tw_bipush C dX11_unfoldGoal_127 (v := nI 35) (by decide) ?_
            refine tw_goto C dX11_unfoldGoal_129 (tgt := 147) (by decide) ?_
            refine tw_istore_n (L' := [(2, .int (nI 35)), (0, .ref (tw_ad G 114)), (1, .int (nI c))]) C N dX11_unfoldGoal_147 rfl (by decide) rfl ?_
            have hm1 : m = 9 := by omega
            subst hm1
            have ea := uAd_m (K := K) (w := 1) (cx := c) (v := v) hbb (m := 9) (by decide)
            rw [gD_m hbb v]
            refine TW.c (L' := [(2, .int (nI (35 + 0))), (0, .ref (tw_ad G 114)), (1, .int (nI c))]) (by simp) ?_
            exact looph 35 (v + 1) (bs.getD v 0) (by decide) (by decide) ea.1.symm (by first | (rw [ea.2]; done) | (rw [ea.2]; rfl) | rfl) 5 0 _ rfl (by rw [show cutD bs (v + 1) 0 = [] from rfl, List.append_nil]; exact BK_app (BK_2 (x := 255) (y := bs.getD v 0)) (BK_0 (fun q h3 h4 => by simp only [List.length_cons, List.length_nil] at h3 h4; simp only [upd, show ¬ q = 24 by omega, show ¬ q = 25 by omega, if_false]; exact hz q (by omega) (by omega)))) (fun q hq => by simp only [upd, show ¬ q = 24 by omega, show ¬ q = 25 by omega, if_false])
        · skip
          refine tw_iconst C dX11_unfoldGoal_108 (v := nI 2) (by decide) ?_
          refine tw_goto C dX11_unfoldGoal_109 (tgt := 116) (by decide) ?_
          refine tw_callV (As := [.int (nI 25), .int (nI 2)]) (rest := []) C N (c_X11_set hM (B := B) (f := (upd f 24 (nI (255 % 256)))) (L := bs.length) (v := v) (i := 25) (x := 2) (by omega)) mm_X11_set wd_605 rfl (hM 114 (by decide) (by decide)) sh_114 rfl (by decide) rfl (Nat.le_of_ble_eq_true rfl) dX11_unfoldGoal_116 ?_
          rintro _ _ rfl
          show TW G X (PU B (upd (upd f 24 (nI (255 % 256))) 25 (nI (2 % 256))) bs.length v) [(0, .ref (tw_ad G 114)), (1, .int (nI c))] 119 []
          refine tw_aload_n C dX11_unfoldGoal_119 0 rfl ?_
          refine tw_getI (v := nI (m % 4)) (k := 16) C dX11_unfoldGoal_120 fc_X11 sh_114 (hM 114 (by decide) (by decide)) rfl (by decide) wd_397 h16 ?_
          refine tw_iconst C dX11_unfoldGoal_123 (v := nI 1) (by decide) ?_
          refine tn_icmp_ne C dX11_unfoldGoal_124 (tgt := 132) (by decide) (by omega) (by omega) (fun c24 => ?_) (fun c24 => ?_)
          · skip
            refine tw_aload_n C dX11_unfoldGoal_132 0 rfl ?_
            refine tw_getI (v := nI (m % 4)) (k := 16) C dX11_unfoldGoal_133 fc_X11 sh_114 (hM 114 (by decide) (by decide)) rfl (by decide) wd_397 h16 ?_
            refine tw_iconst C dX11_unfoldGoal_136 (v := nI 2) (by decide) ?_
            refine tn_icmp_ne C dX11_unfoldGoal_137 (tgt := 145) (by decide) (by omega) (by omega) (fun c25 => ?_) (fun c25 => ?_)
            · skip
              refine tw_bipush C dX11_unfoldGoal_145 (v := nI 39) (by decide) ?_
              refine tw_istore_n (L' := [(2, .int (nI 39)), (0, .ref (tw_ad G 114)), (1, .int (nI c))]) C N dX11_unfoldGoal_147 rfl (by decide) rfl ?_
              have hm1 : m = 11 := by omega
              subst hm1
              have ea := uAd_11 (K := K) (w := 1) (cx := c) (v := v) (bs := bs)
              refine TW.c (L' := [(2, .int (nI (39 + 0))), (0, .ref (tw_ad G 114)), (1, .int (nI c))]) (by simp) ?_
              exact looph 39 (v) (2) (by decide) (by decide) ea.1.symm (by first | (rw [ea.2]; done) | (rw [ea.2]; rfl) | rfl) 1 0 _ rfl (by rw [show cutD bs (v) 0 = [] from rfl, List.append_nil]; exact BK_app (BK_2 (x := 255) (y := 2)) (BK_0 (fun q h3 h4 => by simp only [List.length_cons, List.length_nil] at h3 h4; simp only [upd, show ¬ q = 24 by omega, show ¬ q = 25 by omega, if_false]; exact hz q (by omega) (by omega)))) (fun q hq => by simp only [upd, show ¬ q = 24 by omega, show ¬ q = 25 by omega, if_false])
            · skip
              refine tw_bipush C dX11_unfoldGoal_140 (v := nI 37) (by decide) ?_
              refine tw_goto C dX11_unfoldGoal_142 (tgt := 147) (by decide) ?_
              refine tw_istore_n (L' := [(2, .int (nI 37)), (0, .ref (tw_ad G 114)), (1, .int (nI c))]) C N dX11_unfoldGoal_147 rfl (by decide) rfl ?_
              exfalso
              omega
          · skip
            refine tw_bipush C dX11_unfoldGoal_127 (v := nI 35) (by decide) ?_
            refine tw_goto C dX11_unfoldGoal_129 (tgt := 147) (by decide) ?_
            refine tw_istore_n (L' := [(2, .int (nI 35)), (0, .ref (tw_ad G 114)), (1, .int (nI c))]) C N dX11_unfoldGoal_147 rfl (by decide) rfl ?_
            exfalso
            omega
      · exact absurd c16 (by omega)
    · exact absurd c15 (by omega)
