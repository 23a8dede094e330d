theorem be4 (v : Nat) : be v 4 = [v / 16777216 % 256, v / 65536 % 256, v / 256 % 256, v % 256] := by
  show [v / 2 ^ 24 % 256, v / 2 ^ 16 % 256, v / 2 ^ 8 % 256, v / 2 ^ 0 % 256] = _
  simp only [Nat.reducePow, Nat.div_one]
theorem nb3 (xs : List Nat) (a : Nat) : nb xs a 3 = (xs.getD a 0 * 256 + xs.getD (a + 1) 0) * 256 + xs.getD (a + 2) 0 := by show ((0 * 256 + xs.getD a 0) * 256 + xs.getD (a + 1) 0) * 256 + xs.getD (a + 2) 0 = _; omega
theorem list4 {a b c d a' b' c' d' : Nat} (h1 : a = a') (h2 : b = b') (h3 : c = c') (h4 : d = d') : [a, b, c, d] = [a', b', c', d'] := by subst h1 h2 h3 h4; rfl
theorem uPn_0 {bs : List Nat} (hb : ∀ x ∈ bs, x < 256) (v : Nat) : be (uPn 0 (nb bs v 4)) 4 = [bs.getD v 0 % 256, bs.getD (v + 1) 0 % 256, bs.getD (v + 1 + 1) 0 % 256, bs.getD (v + 1 + 1 + 1) 0 % 256] := by
  have h0 := gD_lt hb v
  have h1 := gD_lt hb (v + 1)
  have h2 := gD_lt hb (v + 1 + 1)
  have h3 := gD_lt hb (v + 1 + 1 + 1)
  show be (nb bs v 4) 4 = _
  rw [be4, nb4]
  simp only [Nat.add_assoc, Nat.reduceAdd] at h2 h3 ⊢
  refine list4 ?_ ?_ ?_ ?_ <;> omega
theorem uPn_1 {bs : List Nat} (hb : ∀ x ∈ bs, x < 256) (v : Nat) : be (uPn 1 (nb bs v 3)) 4 = [bs.getD v 0 % 256, bs.getD (v + 1) 0 % 256, 240 % 256, bs.getD (v + 1 + 1) 0 % 256] := by
  have h0 := gD_lt hb v
  have h1 := gD_lt hb (v + 1)
  have h2 := gD_lt hb (v + 1 + 1)
  show be (nb bs v 3 / 256 * 65536 + 61440 + nb bs v 3 % 256) 4 = _
  rw [be4, nb3]
  simp only [Nat.add_assoc, Nat.reduceAdd] at h2 ⊢
  refine list4 ?_ ?_ ?_ ?_ <;> omega
theorem uPn_2 {bs : List Nat} (hb : ∀ x ∈ bs, x < 256) (v : Nat) : be (uPn 2 (nb bs v 3)) 4 = [240 % 256, bs.getD v 0 % 256, bs.getD (v + 1) 0 % 256, bs.getD (v + 1 + 1) 0 % 256] := by
  have h0 := gD_lt hb v
  have h1 := gD_lt hb (v + 1)
  have h2 := gD_lt hb (v + 1 + 1)
  show be (61440 * 65536 + nb bs v 3 / 65536 * 65536 + nb bs v 3 % 65536) 4 = _
  rw [be4, nb3]
  simp only [Nat.add_assoc, Nat.reduceAdd] at h2 ⊢
  refine list4 ?_ ?_ ?_ ?_ <;> omega
theorem or176 : ∀ x, x < 16 → 176 ||| x = 176 + x := by decide
theorem uPn_3 {bs : List Nat} (hb : ∀ x ∈ bs, x < 256) (v : Nat) : be (uPn 3 (nb bs v 1)) 4 = [240 % 256, (176 ||| (bs.getD v 0 / 16)) % 256, 240 % 256, (176 ||| (bs.getD v 0 % 16)) % 256] := by
  have h0 := gD_lt hb v
  have e : nb bs v 1 = bs.getD v 0 := by show 0 * 256 + bs.getD v 0 = _; omega
  have e2 : ∀ x, x < 16 → ∀ y, y < 16 → be ((61616 + x) * 65536 + 61616 + y) 4 = [240 % 256, (176 + x) % 256, 240 % 256, (176 + y) % 256] := by decide +kernel
  show be ((61616 + nb bs v 1 / 16) * 65536 + 61616 + nb bs v 1 % 16) 4 = _
  rw [e, or176 _ (by omega), or176 _ (by omega)]
  exact e2 _ (by omega) _ (by omega)
theorem nbc2 {bs : List Nat} (hb : ∀ x ∈ bs, x < 256) (v : Nat) : be (nb bs v 2) 2 = [bs.getD v 0 % 256, bs.getD (v + 1) 0 % 256] := by
  rw [be_nb hb, gD_m hb, gD_m hb]; rfl
theorem BK_4 {g : Nat → Int32} {a x y z u : Nat} (h0 : g a = nI x) (h1 : g (a + 1) = nI y) (h2 : g (a + 2) = nI z) (h3 : g (a + 3) = nI u) : BK g a [x, y, z, u] := by
  intro i hi
  have hi : i < 4 := hi
  rcases (show i = 0 ∨ i = 1 ∨ i = 2 ∨ i = 3 by omega) with rfl | rfl | rfl | rfl
  · exact h0
  · exact h1
  · exact h2
  · exact h3
theorem BK_22 {g : Nat → Int32} {a x y : Nat} (h0 : g a = nI x) (h1 : g (a + 1) = nI y) : BK g a [x, y] := by
  intro i hi
  have hi : i < 2 := hi
  rcases (show i = 0 ∨ i = 1 by omega) with rfl | rfl
  · exact h0
  · exact h1
theorem BK_e {g : Nat → Int32} {a : Nat} {X Y : List Nat} (e : X = Y) (h : BK g a Y) : BK g a X := e ▸ h
theorem c_X11_unfoldPorts {G : tw_G} (hM : tw_mG G) {B : tw_S} {f : Nat → Int32} {bs : List Nat} (hB : LA (tw_A B 121) bs) (h19 : tw_I B 114 19 = nI bs.length) (hbl : bs.length ≤ 640) {v : Nat} (hbb : ∀ x ∈ bs, x < 256) {u : Nat} (hu : u < 4) : tw_M G yX11_unfoldPorts cX11_unfoldPorts 3 none 2 43 [.ref (tw_ad G 114), .int (nI u)] ((PU B f bs.length v)) ri_V (fun _ S' => ∃ g, S' = PU B g bs.length (v + pfN u + 2) ∧ BK g 40 (be (uPn u (nb bs v (pfN u))) 4) ∧ BK g 46 (be (nb bs (v + pfN u) 2) 2) ∧ ∀ q, q < 40 ∨ (44 ≤ q ∧ q < 46) ∨ 48 ≤ q → g q = f q) := by
  refine tw_M.of (L := [(0, .ref (tw_ad G 114)), (1, .int (nI u))]) (by decide) (Nat.le_of_ble_eq_true rfl) rfl (fun X C N Q => ?_)
  have C : tw_C G X cX11_unfoldPorts RX11 := C
  have hb0 := gD_lt hbb v
  rcases (show u = 0 ∨ u = 1 ∨ u = 2 ∨ u = 3 by omega) with rfl | rfl | rfl | rfl
  · have htf : tfN 0 = 4 := rfl
    refine tw_iload_n C dX11_unfoldPorts_0 1 rfl ?_
    refine tw_iconst C dX11_unfoldPorts_1 (v := nI 3) (by decide) ?_
    refine tn_icmp_ne C dX11_unfoldPorts_2 (tgt := 58) (by decide) (by omega) (by omega) (fun c1 => ?_) (fun c1 => ?_)
    · skip
      refine tw_aload_n C dX11_unfoldPorts_58 0 rfl ?_
      refine tw_bipush C dX11_unfoldPorts_59 (v := nI 40) (by decide) ?_
      refine tw_iload_n C dX11_unfoldPorts_61 1 rfl ?_
      refine tw_iconst C dX11_unfoldPorts_62 (v := nI 2) (by decide) ?_
      refine tn_icmp_ne C dX11_unfoldPorts_63 (tgt := 72) (by decide) (by omega) (by omega) (fun c2 => ?_) (fun c2 => ?_)
      · skip
        refine tw_aload_n C dX11_unfoldPorts_72 0 rfl ?_
        refine tw_callV (As := []) (rest := [.int (nI 40), .ref (tw_ad G 114)]) C N (c_X11_next hM (B := B) (f := f) (bs := bs) (v := v) hB h19 hbl) mm_X11_next wd_593 rfl (hM 114 (by decide) (by decide)) sh_114 rfl (by decide) rfl (Nat.le_of_ble_eq_true rfl) dX11_unfoldPorts_73 ?_
        rintro _ _ ⟨rfl, rfl⟩
        show TW G X (PU B f bs.length (v + 1)) [(0, .ref (tw_ad G 114)), (1, .int (nI 0))] 76 [.int (nI (bs.getD v 0)), .int (nI 40), .ref (tw_ad G 114)]
        refine tw_callV (As := [.int (nI 40), .int (nI (bs.getD v 0))]) (rest := []) C N (c_X11_set hM (B := B) (f := f) (L := bs.length) (v := (v + 1)) (i := 40) (x := bs.getD v 0) (by omega)) mm_X11_set wd_605 rfl (hM 114 (by decide) (by decide)) sh_114 rfl (by decide) rfl (Nat.le_of_ble_eq_true rfl) dX11_unfoldPorts_76 ?_
        rintro _ _ rfl
        show TW G X (PU B (upd f 40 (nI ((bs.getD v 0) % 256))) bs.length (v + 1)) [(0, .ref (tw_ad G 114)), (1, .int (nI 0))] 79 []
        refine tw_aload_n C dX11_unfoldPorts_79 0 rfl ?_
        refine tw_bipush C dX11_unfoldPorts_80 (v := nI 41) (by decide) ?_
        refine tw_aload_n C dX11_unfoldPorts_82 0 rfl ?_
        refine tw_callV (As := []) (rest := [.int (nI 41), .ref (tw_ad G 114)]) C N (c_X11_next hM (B := B) (f := (upd f 40 (nI ((bs.getD v 0) % 256)))) (bs := bs) (v := (v + 1)) hB h19 hbl) mm_X11_next wd_593 rfl (hM 114 (by decide) (by decide)) sh_114 rfl (by decide) rfl (Nat.le_of_ble_eq_true rfl) dX11_unfoldPorts_83 ?_
        rintro _ _ ⟨rfl, rfl⟩
        show TW G X (PU B (upd f 40 (nI ((bs.getD v 0) % 256))) bs.length ((v + 1) + 1)) [(0, .ref (tw_ad G 114)), (1, .int (nI 0))] 86 [.int (nI (bs.getD (v + 1) 0)), .int (nI 41), .ref (tw_ad G 114)]
        refine tw_callV (As := [.int (nI 41), .int (nI (bs.getD (v + 1) 0))]) (rest := []) C N (c_X11_set hM (B := B) (f := (upd f 40 (nI ((bs.getD v 0) % 256)))) (L := bs.length) (v := ((v + 1) + 1)) (i := 41) (x := bs.getD (v + 1) 0) (by omega)) mm_X11_set wd_605 rfl (hM 114 (by decide) (by decide)) sh_114 rfl (by decide) rfl (Nat.le_of_ble_eq_true rfl) dX11_unfoldPorts_86 ?_
        rintro _ _ rfl
        show TW G X (PU B (upd (upd f 40 (nI ((bs.getD v 0) % 256))) 41 (nI ((bs.getD (v + 1) 0) % 256))) bs.length ((v + 1) + 1)) [(0, .ref (tw_ad G 114)), (1, .int (nI 0))] 89 []
        refine tw_aload_n C dX11_unfoldPorts_89 0 rfl ?_
        refine tw_bipush C dX11_unfoldPorts_90 (v := nI 42) (by decide) ?_
        refine tw_iload_n C dX11_unfoldPorts_92 1 rfl ?_
        refine tw_iconst C dX11_unfoldPorts_93 (v := nI 1) (by decide) ?_
        refine tn_icmp_ne C dX11_unfoldPorts_94 (tgt := 103) (by decide) (by omega) (by omega) (fun c7 => ?_) (fun c7 => ?_)
        · skip
          refine tw_aload_n C dX11_unfoldPorts_103 0 rfl ?_
          refine tw_callV (As := []) (rest := [.int (nI 42), .ref (tw_ad G 114)]) C N (c_X11_next hM (B := B) (f := (upd (upd f 40 (nI ((bs.getD v 0) % 256))) 41 (nI ((bs.getD (v + 1) 0) % 256)))) (bs := bs) (v := ((v + 1) + 1)) hB h19 hbl) mm_X11_next wd_593 rfl (hM 114 (by decide) (by decide)) sh_114 rfl (by decide) rfl (Nat.le_of_ble_eq_true rfl) dX11_unfoldPorts_104 ?_
          rintro _ _ ⟨rfl, rfl⟩
          show TW G X (PU B (upd (upd f 40 (nI ((bs.getD v 0) % 256))) 41 (nI ((bs.getD (v + 1) 0) % 256))) bs.length (((v + 1) + 1) + 1)) [(0, .ref (tw_ad G 114)), (1, .int (nI 0))] 107 [.int (nI (bs.getD ((v + 1) + 1) 0)), .int (nI 42), .ref (tw_ad G 114)]
          refine tw_callV (As := [.int (nI 42), .int (nI (bs.getD ((v + 1) + 1) 0))]) (rest := []) C N (c_X11_set hM (B := B) (f := (upd (upd f 40 (nI ((bs.getD v 0) % 256))) 41 (nI ((bs.getD (v + 1) 0) % 256)))) (L := bs.length) (v := (((v + 1) + 1) + 1)) (i := 42) (x := bs.getD ((v + 1) + 1) 0) (by omega)) mm_X11_set wd_605 rfl (hM 114 (by decide) (by decide)) sh_114 rfl (by decide) rfl (Nat.le_of_ble_eq_true rfl) dX11_unfoldPorts_107 ?_
          rintro _ _ rfl
          show TW G X (PU B (upd (upd (upd f 40 (nI ((bs.getD v 0) % 256))) 41 (nI ((bs.getD (v + 1) 0) % 256))) 42 (nI ((bs.getD ((v + 1) + 1) 0) % 256))) bs.length (((v + 1) + 1) + 1)) [(0, .ref (tw_ad G 114)), (1, .int (nI 0))] 110 []
          refine tw_aload_n C dX11_unfoldPorts_110 0 rfl ?_
          refine tw_bipush C dX11_unfoldPorts_111 (v := nI 43) (by decide) ?_
          refine tw_aload_n C dX11_unfoldPorts_113 0 rfl ?_
          refine tw_callV (As := []) (rest := [.int (nI 43), .ref (tw_ad G 114)]) C N (c_X11_next hM (B := B) (f := (upd (upd (upd f 40 (nI ((bs.getD v 0) % 256))) 41 (nI ((bs.getD (v + 1) 0) % 256))) 42 (nI ((bs.getD ((v + 1) + 1) 0) % 256)))) (bs := bs) (v := (((v + 1) + 1) + 1)) hB h19 hbl) mm_X11_next wd_593 rfl (hM 114 (by decide) (by decide)) sh_114 rfl (by decide) rfl (Nat.le_of_ble_eq_true rfl) dX11_unfoldPorts_114 ?_
          rintro _ _ ⟨rfl, rfl⟩
          show TW G X (PU B (upd (upd (upd f 40 (nI ((bs.getD v 0) % 256))) 41 (nI ((bs.getD (v + 1) 0) % 256))) 42 (nI ((bs.getD ((v + 1) + 1) 0) % 256))) bs.length ((((v + 1) + 1) + 1) + 1)) [(0, .ref (tw_ad G 114)), (1, .int (nI 0))] 117 [.int (nI (bs.getD (((v + 1) + 1) + 1) 0)), .int (nI 43), .ref (tw_ad G 114)]
          refine tw_callV (As := [.int (nI 43), .int (nI (bs.getD (((v + 1) + 1) + 1) 0))]) (rest := []) C N (c_X11_set hM (B := B) (f := (upd (upd (upd f 40 (nI ((bs.getD v 0) % 256))) 41 (nI ((bs.getD (v + 1) 0) % 256))) 42 (nI ((bs.getD ((v + 1) + 1) 0) % 256)))) (L := bs.length) (v := ((((v + 1) + 1) + 1) + 1)) (i := 43) (x := bs.getD (((v + 1) + 1) + 1) 0) (by omega)) mm_X11_set wd_605 rfl (hM 114 (by decide) (by decide)) sh_114 rfl (by decide) rfl (Nat.le_of_ble_eq_true rfl) dX11_unfoldPorts_117 ?_
          rintro _ _ rfl
          show TW G X (PU B (upd (upd (upd (upd f 40 (nI ((bs.getD v 0) % 256))) 41 (nI ((bs.getD (v + 1) 0) % 256))) 42 (nI ((bs.getD ((v + 1) + 1) 0) % 256))) 43 (nI ((bs.getD (((v + 1) + 1) + 1) 0) % 256))) bs.length ((((v + 1) + 1) + 1) + 1)) [(0, .ref (tw_ad G 114)), (1, .int (nI 0))] 120 []
          refine tw_aload_n C dX11_unfoldPorts_120 0 rfl ?_
          refine tw_bipush C dX11_unfoldPorts_121 (v := nI 46) (by decide) ?_
          refine tw_aload_n C dX11_unfoldPorts_123 0 rfl ?_
          refine tw_callV (As := []) (rest := [.int (nI 46), .ref (tw_ad G 114)]) C N (c_X11_next hM (B := B) (f := (upd (upd (upd (upd f 40 (nI ((bs.getD v 0) % 256))) 41 (nI ((bs.getD (v + 1) 0) % 256))) 42 (nI ((bs.getD ((v + 1) + 1) 0) % 256))) 43 (nI ((bs.getD (((v + 1) + 1) + 1) 0) % 256)))) (bs := bs) (v := ((((v + 1) + 1) + 1) + 1)) hB h19 hbl) mm_X11_next wd_593 rfl (hM 114 (by decide) (by decide)) sh_114 rfl (by decide) rfl (Nat.le_of_ble_eq_true rfl) dX11_unfoldPorts_124 ?_
          rintro _ _ ⟨rfl, rfl⟩
          show TW G X (PU B (upd (upd (upd (upd f 40 (nI ((bs.getD v 0) % 256))) 41 (nI ((bs.getD (v + 1) 0) % 256))) 42 (nI ((bs.getD ((v + 1) + 1) 0) % 256))) 43 (nI ((bs.getD (((v + 1) + 1) + 1) 0) % 256))) bs.length (((((v + 1) + 1) + 1) + 1) + 1)) [(0, .ref (tw_ad G 114)), (1, .int (nI 0))] 127 [.int (nI (bs.getD ((((v + 1) + 1) + 1) + 1) 0)), .int (nI 46), .ref (tw_ad G 114)]
          refine tw_callV (As := [.int (nI 46), .int (nI (bs.getD ((((v + 1) + 1) + 1) + 1) 0))]) (rest := []) C N (c_X11_set hM (B := B) (f := (upd (upd (upd (upd f 40 (nI ((bs.getD v 0) % 256))) 41 (nI ((bs.getD (v + 1) 0) % 256))) 42 (nI ((bs.getD ((v + 1) + 1) 0) % 256))) 43 (nI ((bs.getD (((v + 1) + 1) + 1) 0) % 256)))) (L := bs.length) (v := (((((v + 1) + 1) + 1) + 1) + 1)) (i := 46) (x := bs.getD ((((v + 1) + 1) + 1) + 1) 0) (by omega)) mm_X11_set wd_605 rfl (hM 114 (by decide) (by decide)) sh_114 rfl (by decide) rfl (Nat.le_of_ble_eq_true rfl) dX11_unfoldPorts_127 ?_
          rintro _ _ rfl
          show TW G X (PU B (upd (upd (upd (upd (upd f 40 (nI ((bs.getD v 0) % 256))) 41 (nI ((bs.getD (v + 1) 0) % 256))) 42 (nI ((bs.getD ((v + 1) + 1) 0) % 256))) 43 (nI ((bs.getD (((v + 1) + 1) + 1) 0) % 256))) 46 (nI ((bs.getD ((((v + 1) + 1) + 1) + 1) 0) % 256))) bs.length (((((v + 1) + 1) + 1) + 1) + 1)) [(0, .ref (tw_ad G 114)), (1, .int (nI 0))] 130 []
          refine tw_aload_n C dX11_unfoldPorts_130 0 rfl ?_
          refine tw_bipush C dX11_unfoldPorts_131 (v := nI 47) (by decide) ?_
          refine tw_aload_n C dX11_unfoldPorts_133 0 rfl ?_
          refine tw_callV (As := []) (rest := [.int (nI 47), .ref (tw_ad G 114)]) C N (c_X11_next hM (B := B) (f := (upd (upd (upd (upd (upd f 40 (nI ((bs.getD v 0) % 256))) 41 (nI ((bs.getD (v + 1) 0) % 256))) 42 (nI ((bs.getD ((v + 1) + 1) 0) % 256))) 43 (nI ((bs.getD (((v + 1) + 1) + 1) 0) % 256))) 46 (nI ((bs.getD ((((v + 1) + 1) + 1) + 1) 0) % 256)))) (bs := bs) (v := (((((v + 1) + 1) + 1) + 1) + 1)) hB h19 hbl) mm_X11_next wd_593 rfl (hM 114 (by decide) (by decide)) sh_114 rfl (by decide) rfl (Nat.le_of_ble_eq_true rfl) dX11_unfoldPorts_134 ?_
          rintro _ _ ⟨rfl, rfl⟩
          show TW G X (PU B (upd (upd (upd (upd (upd f 40 (nI ((bs.getD v 0) % 256))) 41 (nI ((bs.getD (v + 1) 0) % 256))) 42 (nI ((bs.getD ((v + 1) + 1) 0) % 256))) 43 (nI ((bs.getD (((v + 1) + 1) + 1) 0) % 256))) 46 (nI ((bs.getD ((((v + 1) + 1) + 1) + 1) 0) % 256))) bs.length ((((((v + 1) + 1) + 1) + 1) + 1) + 1)) [(0, .ref (tw_ad G 114)), (1, .int (nI 0))] 137 [.int (nI (bs.getD (((((v + 1) + 1) + 1) + 1) + 1) 0)), .int (nI 47), .ref (tw_ad G 114)]
          refine tw_callV (As := [.int (nI 47), .int (nI (bs.getD (((((v + 1) + 1) + 1) + 1) + 1) 0))]) (rest := []) C N (c_X11_set hM (B := B) (f := (upd (upd (upd (upd (upd f 40 (nI ((bs.getD v 0) % 256))) 41 (nI ((bs.getD (v + 1) 0) % 256))) 42 (nI ((bs.getD ((v + 1) + 1) 0) % 256))) 43 (nI ((bs.getD (((v + 1) + 1) + 1) 0) % 256))) 46 (nI ((bs.getD ((((v + 1) + 1) + 1) + 1) 0) % 256)))) (L := bs.length) (v := ((((((v + 1) + 1) + 1) + 1) + 1) + 1)) (i := 47) (x := bs.getD (((((v + 1) + 1) + 1) + 1) + 1) 0) (by omega)) mm_X11_set wd_605 rfl (hM 114 (by decide) (by decide)) sh_114 rfl (by decide) rfl (Nat.le_of_ble_eq_true rfl) dX11_unfoldPorts_137 ?_
          rintro _ _ rfl
          show TW G X (PU B (upd (upd (upd (upd (upd (upd f 40 (nI ((bs.getD v 0) % 256))) 41 (nI ((bs.getD (v + 1) 0) % 256))) 42 (nI ((bs.getD ((v + 1) + 1) 0) % 256))) 43 (nI ((bs.getD (((v + 1) + 1) + 1) 0) % 256))) 46 (nI ((bs.getD ((((v + 1) + 1) + 1) + 1) 0) % 256))) 47 (nI ((bs.getD (((((v + 1) + 1) + 1) + 1) + 1) 0) % 256))) bs.length ((((((v + 1) + 1) + 1) + 1) + 1) + 1)) [(0, .ref (tw_ad G 114)), (1, .int (nI 0))] 140 []
          exact tw_return (v := ()) C Q dX11_unfoldPorts_140 rfl rfl ⟨_, rfl, BK_e (uPn_0 hbb v) (BK_4 rfl rfl rfl rfl), BK_e (nbc2 hbb (v + 1 + 1 + 1 + 1)) (BK_22 rfl rfl), fun q hq => by simp only [upd]; rw [if_neg (by omega), if_neg (by omega), if_neg (by omega), if_neg (by omega), if_neg (by omega), if_neg (by omega)]⟩
        · exact absurd c7 (by decide)
      · exact absurd c2 (by decide)
    · exact absurd c1 (by decide)
  · have htf : tfN 1 = 3 := rfl
    refine tw_iload_n C dX11_unfoldPorts_0 1 rfl ?_
    refine tw_iconst C dX11_unfoldPorts_1 (v := nI 3) (by decide) ?_
    refine tn_icmp_ne C dX11_unfoldPorts_2 (tgt := 58) (by decide) (by omega) (by omega) (fun c16 => ?_) (fun c16 => ?_)
    · skip
      refine tw_aload_n C dX11_unfoldPorts_58 0 rfl ?_
      refine tw_bipush C dX11_unfoldPorts_59 (v := nI 40) (by decide) ?_
      refine tw_iload_n C dX11_unfoldPorts_61 1 rfl ?_
      refine tw_iconst C dX11_unfoldPorts_62 (v := nI 2) (by decide) ?_
      refine tn_icmp_ne C dX11_unfoldPorts_63 (tgt := 72) (by decide) (by omega) (by omega) (fun c17 => ?_) (fun c17 => ?_)
      · skip
        refine tw_aload_n C dX11_unfoldPorts_72 0 rfl ?_
        refine tw_callV (As := []) (rest := [.int (nI 40), .ref (tw_ad G 114)]) C N (c_X11_next hM (B := B) (f := f) (bs := bs) (v := v) hB h19 hbl) mm_X11_next wd_593 rfl (hM 114 (by decide) (by decide)) sh_114 rfl (by decide) rfl (Nat.le_of_ble_eq_true rfl) dX11_unfoldPorts_73 ?_
        rintro _ _ ⟨rfl, rfl⟩
        show TW G X (PU B f bs.length (v + 1)) [(0, .ref (tw_ad G 114)), (1, .int (nI 1))] 76 [.int (nI (bs.getD v 0)), .int (nI 40), .ref (tw_ad G 114)]
        refine tw_callV (As := [.int (nI 40), .int (nI (bs.getD v 0))]) (rest := []) C N (c_X11_set hM (B := B) (f := f) (L := bs.length) (v := (v + 1)) (i := 40) (x := bs.getD v 0) (by omega)) mm_X11_set wd_605 rfl (hM 114 (by decide) (by decide)) sh_114 rfl (by decide) rfl (Nat.le_of_ble_eq_true rfl) dX11_unfoldPorts_76 ?_
        rintro _ _ rfl
        show TW G X (PU B (upd f 40 (nI ((bs.getD v 0) % 256))) bs.length (v + 1)) [(0, .ref (tw_ad G 114)), (1, .int (nI 1))] 79 []
        refine tw_aload_n C dX11_unfoldPorts_79 0 rfl ?_
        refine tw_bipush C dX11_unfoldPorts_80 (v := nI 41) (by decide) ?_
        refine tw_aload_n C dX11_unfoldPorts_82 0 rfl ?_
        refine tw_callV (As := []) (rest := [.int (nI 41), .ref (tw_ad G 114)]) C N (c_X11_next hM (B := B) (f := (upd f 40 (nI ((bs.getD v 0) % 256)))) (bs := bs) (v := (v + 1)) hB h19 hbl) mm_X11_next wd_593 rfl (hM 114 (by decide) (by decide)) sh_114 rfl (by decide) rfl (Nat.le_of_ble_eq_true rfl) dX11_unfoldPorts_83 ?_
        rintro _ _ ⟨rfl, rfl⟩
        show TW G X (PU B (upd f 40 (nI ((bs.getD v 0) % 256))) bs.length ((v + 1) + 1)) [(0, .ref (tw_ad G 114)), (1, .int (nI 1))] 86 [.int (nI (bs.getD (v + 1) 0)), .int (nI 41), .ref (tw_ad G 114)]
        refine tw_callV (As := [.int (nI 41), .int (nI (bs.getD (v + 1) 0))]) (rest := []) C N (c_X11_set hM (B := B) (f := (upd f 40 (nI ((bs.getD v 0) % 256)))) (L := bs.length) (v := ((v + 1) + 1)) (i := 41) (x := bs.getD (v + 1) 0) (by omega)) mm_X11_set wd_605 rfl (hM 114 (by decide) (by decide)) sh_114 rfl (by decide) rfl (Nat.le_of_ble_eq_true rfl) dX11_unfoldPorts_86 ?_
        rintro _ _ rfl
        show TW G X (PU B (upd (upd f 40 (nI ((bs.getD v 0) % 256))) 41 (nI ((bs.getD (v + 1) 0) % 256))) bs.length ((v + 1) + 1)) [(0, .ref (tw_ad G 114)), (1, .int (nI 1))] 89 []
        refine tw_aload_n C dX11_unfoldPorts_89 0 rfl ?_
        refine tw_bipush C dX11_unfoldPorts_90 (v := nI 42) (by decide) ?_
        refine tw_iload_n C dX11_unfoldPorts_92 1 rfl ?_
        refine tw_iconst C dX11_unfoldPorts_93 (v := nI 1) (by decide) ?_
        refine tn_icmp_ne C dX11_unfoldPorts_94 (tgt := 103) (by decide) (by omega) (by omega) (fun c22 => ?_) (fun c22 => ?_)
        · exact absurd c22 (by decide)
        refine tw_sipush C dX11_unfoldPorts_97 (v := nI 240) (by decide) ?_
        refine tw_goto C dX11_unfoldPorts_100 (tgt := 107) (by decide) ?_
        refine tw_callV (As := [.int (nI 42), .int (nI 240)]) (rest := []) C N (c_X11_set hM (B := B) (f := (upd (upd f 40 (nI ((bs.getD v 0) % 256))) 41 (nI ((bs.getD (v + 1) 0) % 256)))) (L := bs.length) (v := ((v + 1) + 1)) (i := 42) (x := 240) (by omega)) mm_X11_set wd_605 rfl (hM 114 (by decide) (by decide)) sh_114 rfl (by decide) rfl (Nat.le_of_ble_eq_true rfl) dX11_unfoldPorts_107 ?_
        rintro _ _ rfl
        show TW G X (PU B (upd (upd (upd f 40 (nI ((bs.getD v 0) % 256))) 41 (nI ((bs.getD (v + 1) 0) % 256))) 42 (nI (240 % 256))) bs.length ((v + 1) + 1)) [(0, .ref (tw_ad G 114)), (1, .int (nI 1))] 110 []
        refine tw_aload_n C dX11_unfoldPorts_110 0 rfl ?_
        refine tw_bipush C dX11_unfoldPorts_111 (v := nI 43) (by decide) ?_
        refine tw_aload_n C dX11_unfoldPorts_113 0 rfl ?_
        refine tw_callV (As := []) (rest := [.int (nI 43), .ref (tw_ad G 114)]) C N (c_X11_next hM (B := B) (f := (upd (upd (upd f 40 (nI ((bs.getD v 0) % 256))) 41 (nI ((bs.getD (v + 1) 0) % 256))) 42 (nI (240 % 256)))) (bs := bs) (v := ((v + 1) + 1)) hB h19 hbl) mm_X11_next wd_593 rfl (hM 114 (by decide) (by decide)) sh_114 rfl (by decide) rfl (Nat.le_of_ble_eq_true rfl) dX11_unfoldPorts_114 ?_
        rintro _ _ ⟨rfl, rfl⟩
        show TW G X (PU B (upd (upd (upd f 40 (nI ((bs.getD v 0) % 256))) 41 (nI ((bs.getD (v + 1) 0) % 256))) 42 (nI (240 % 256))) bs.length (((v + 1) + 1) + 1)) [(0, .ref (tw_ad G 114)), (1, .int (nI 1))] 117 [.int (nI (bs.getD ((v + 1) + 1) 0)), .int (nI 43), .ref (tw_ad G 114)]
        refine tw_callV (As := [.int (nI 43), .int (nI (bs.getD ((v + 1) + 1) 0))]) (rest := []) C N (c_X11_set hM (B := B) (f := (upd (upd (upd f 40 (nI ((bs.getD v 0) % 256))) 41 (nI ((bs.getD (v + 1) 0) % 256))) 42 (nI (240 % 256)))) (L := bs.length) (v := (((v + 1) + 1) + 1)) (i := 43) (x := bs.getD ((v + 1) + 1) 0) (by omega)) mm_X11_set wd_605 rfl (hM 114 (by decide) (by decide)) sh_114 rfl (by decide) rfl (Nat.le_of_ble_eq_true rfl) dX11_unfoldPorts_117 ?_
        rintro _ _ rfl
        show TW G X (PU B (upd (upd (upd (upd f 40 (nI ((bs.getD v 0) % 256))) 41 (nI ((bs.getD (v + 1) 0) % 256))) 42 (nI (240 % 256))) 43 (nI ((bs.getD ((v + 1) + 1) 0) % 256))) bs.length (((v + 1) + 1) + 1)) [(0, .ref (tw_ad G 114)), (1, .int (nI 1))] 120 []
        refine tw_aload_n C dX11_unfoldPorts_120 0 rfl ?_
        refine tw_bipush C dX11_unfoldPorts_121 (v := nI 46) (by decide) ?_
        refine tw_aload_n C dX11_unfoldPorts_123 0 rfl ?_
        refine tw_callV (As := []) (rest := [.int (nI 46), .ref (tw_ad G 114)]) C N (c_X11_next hM (B := B) (f := (upd (upd (upd (upd f 40 (nI ((bs.getD v 0) % 256))) 41 (nI ((bs.getD (v + 1) 0) % 256))) 42 (nI (240 % 256))) 43 (nI ((bs.getD ((v + 1) + 1) 0) % 256)))) (bs := bs) (v := (((v + 1) + 1) + 1)) hB h19 hbl) mm_X11_next wd_593 rfl (hM 114 (by decide) (by decide)) sh_114 rfl (by decide) rfl (Nat.le_of_ble_eq_true rfl) dX11_unfoldPorts_124 ?_
        rintro _ _ ⟨rfl, rfl⟩
        show TW G X (PU B (upd (upd (upd (upd f 40 (nI ((bs.getD v 0) % 256))) 41 (nI ((bs.getD (v + 1) 0) % 256))) 42 (nI (240 % 256))) 43 (nI ((bs.getD ((v + 1) + 1) 0) % 256))) bs.length ((((v + 1) + 1) + 1) + 1)) [(0, .ref (tw_ad G 114)), (1, .int (nI 1))] 127 [.int (nI (bs.getD (((v + 1) + 1) + 1) 0)), .int (nI 46), .ref (tw_ad G 114)]
        refine tw_callV (As := [.int (nI 46), .int (nI (bs.getD (((v + 1) + 1) + 1) 0))]) (rest := []) C N (c_X11_set hM (B := B) (f := (upd (upd (upd (upd f 40 (nI ((bs.getD v 0) % 256))) 41 (nI ((bs.getD (v + 1) 0) % 256))) 42 (nI (240 % 256))) 43 (nI ((bs.getD ((v + 1) + 1) 0) % 256)))) (L := bs.length) (v := ((((v + 1) + 1) + 1) + 1)) (i := 46) (x := bs.getD (((v + 1) + 1) + 1) 0) (by omega)) mm_X11_set wd_605 rfl (hM 114 (by decide) (by decide)) sh_114 rfl (by decide) rfl (Nat.le_of_ble_eq_true rfl) dX11_unfoldPorts_127 ?_
        rintro _ _ rfl
        show TW G X (PU B (upd (upd (upd (upd (upd f 40 (nI ((bs.getD v 0) % 256))) 41 (nI ((bs.getD (v + 1) 0) % 256))) 42 (nI (240 % 256))) 43 (nI ((bs.getD ((v + 1) + 1) 0) % 256))) 46 (nI ((bs.getD (((v + 1) + 1) + 1) 0) % 256))) bs.length ((((v + 1) + 1) + 1) + 1)) [(0, .ref (tw_ad G 114)), (1, .int (nI 1))] 130 []
        refine tw_aload_n C dX11_unfoldPorts_130 0 rfl ?_
        refine tw_bipush C dX11_unfoldPorts_131 (v := nI 47) (by decide) ?_
        refine tw_aload_n C dX11_unfoldPorts_133 0 rfl ?_
        refine tw_callV (As := []) (rest := [.int (nI 47), .ref (tw_ad G 114)]) C N (c_X11_next hM (B := B) (f := (upd (upd (upd (upd (upd f 40 (nI ((bs.getD v 0) % 256))) 41 (nI ((bs.getD (v + 1) 0) % 256))) 42 (nI (240 % 256))) 43 (nI ((bs.getD ((v + 1) + 1) 0) % 256))) 46 (nI ((bs.getD (((v + 1) + 1) + 1) 0) % 256)))) (bs := bs) (v := ((((v + 1) + 1) + 1) + 1)) hB h19 hbl) mm_X11_next wd_593 rfl (hM 114 (by decide) (by decide)) sh_114 rfl (by decide) rfl (Nat.le_of_ble_eq_true rfl) dX11_unfoldPorts_134 ?_
        rintro _ _ ⟨rfl, rfl⟩
        show TW G X (PU B (upd (upd (upd (upd (upd f 40 (nI ((bs.getD v 0) % 256))) 41 (nI ((bs.getD (v + 1) 0) % 256))) 42 (nI (240 % 256))) 43 (nI ((bs.getD ((v + 1) + 1) 0) % 256))) 46 (nI ((bs.getD (((v + 1) + 1) + 1) 0) % 256))) bs.length (((((v + 1) + 1) + 1) + 1) + 1)) [(0, .ref (tw_ad G 114)), (1, .int (nI 1))] 137 [.int (nI (bs.getD ((((v + 1) + 1) + 1) + 1) 0)), .int (nI 47), .ref (tw_ad G 114)]
        refine tw_callV (As := [.int (nI 47), .int (nI (bs.getD ((((v + 1) + 1) + 1) + 1) 0))]) (rest := []) C N (c_X11_set hM (B := B) (f := (upd (upd (upd (upd (upd f 40 (nI ((bs.getD v 0) % 256))) 41 (nI ((bs.getD (v + 1) 0) % 256))) 42 (nI (240 % 256))) 43 (nI ((bs.getD ((v + 1) + 1) 0) % 256))) 46 (nI ((bs.getD (((v + 1) + 1) + 1) 0) % 256)))) (L := bs.length) (v := (((((v + 1) + 1) + 1) + 1) + 1)) (i := 47) (x := bs.getD ((((v + 1) + 1) + 1) + 1) 0) (by omega)) mm_X11_set wd_605 rfl (hM 114 (by decide) (by decide)) sh_114 rfl (by decide) rfl (Nat.le_of_ble_eq_true rfl) dX11_unfoldPorts_137 ?_
        rintro _ _ rfl
        show TW G X (PU B (upd (upd (upd (upd (upd (upd f 40 (nI ((bs.getD v 0) % 256))) 41 (nI ((bs.getD (v + 1) 0) % 256))) 42 (nI (240 % 256))) 43 (nI ((bs.getD ((v + 1) + 1) 0) % 256))) 46 (nI ((bs.getD (((v + 1) + 1) + 1) 0) % 256))) 47 (nI ((bs.getD ((((v + 1) + 1) + 1) + 1) 0) % 256))) bs.length (((((v + 1) + 1) + 1) + 1) + 1)) [(0, .ref (tw_ad G 114)), (1, .int (nI 1))] 140 []
        exact tw_return (v := ()) C Q dX11_unfoldPorts_140 rfl rfl ⟨_, rfl, BK_e (uPn_1 hbb v) (BK_4 rfl rfl rfl rfl), BK_e (nbc2 hbb (v + 1 + 1 + 1)) (BK_22 rfl rfl), fun q hq => by simp only [upd]; rw [if_neg (by omega), if_neg (by omega), if_neg (by omega), if_neg (by omega), if_neg (by omega), if_neg (by omega)]⟩
      · exact absurd c17 (by decide)
    · exact absurd c16 (by decide)
  · have htf : tfN 2 = 1 := rfl
    refine tw_iload_n C dX11_unfoldPorts_0 1 rfl ?_
    refine tw_iconst C dX11_unfoldPorts_1 (v := nI 3) (by decide) ?_
    refine tn_icmp_ne C dX11_unfoldPorts_2 (tgt := 58) (by decide) (by omega) (by omega) (fun c30 => ?_) (fun c30 => ?_)
    · skip
      refine tw_aload_n C dX11_unfoldPorts_58 0 rfl ?_
      refine tw_bipush C dX11_unfoldPorts_59 (v := nI 40) (by decide) ?_
      refine tw_iload_n C dX11_unfoldPorts_61 1 rfl ?_
      refine tw_iconst C dX11_unfoldPorts_62 (v := nI 2) (by decide) ?_
      refine tn_icmp_ne C dX11_unfoldPorts_63 (tgt := 72) (by decide) (by omega) (by omega) (fun c31 => ?_) (fun c31 => ?_)
      · exact absurd c31 (by decide)
      refine tw_sipush C dX11_unfoldPorts_66 (v := nI 240) (by decide) ?_
      refine tw_goto C dX11_unfoldPorts_69 (tgt := 76) (by decide) ?_
      refine tw_callV (As := [.int (nI 40), .int (nI 240)]) (rest := []) C N (c_X11_set hM (B := B) (f := f) (L := bs.length) (v := v) (i := 40) (x := 240) (by omega)) mm_X11_set wd_605 rfl (hM 114 (by decide) (by decide)) sh_114 rfl (by decide) rfl (Nat.le_of_ble_eq_true rfl) dX11_unfoldPorts_76 ?_
      rintro _ _ rfl
      show TW G X (PU B (upd f 40 (nI (240 % 256))) bs.length v) [(0, .ref (tw_ad G 114)), (1, .int (nI 2))] 79 []
      refine tw_aload_n C dX11_unfoldPorts_79 0 rfl ?_
      refine tw_bipush C dX11_unfoldPorts_80 (v := nI 41) (by decide) ?_
      refine tw_aload_n C dX11_unfoldPorts_82 0 rfl ?_
      refine tw_callV (As := []) (rest := [.int (nI 41), .ref (tw_ad G 114)]) C N (c_X11_next hM (B := B) (f := (upd f 40 (nI (240 % 256)))) (bs := bs) (v := v) hB h19 hbl) mm_X11_next wd_593 rfl (hM 114 (by decide) (by decide)) sh_114 rfl (by decide) rfl (Nat.le_of_ble_eq_true rfl) dX11_unfoldPorts_83 ?_
      rintro _ _ ⟨rfl, rfl⟩
      show TW G X (PU B (upd f 40 (nI (240 % 256))) bs.length (v + 1)) [(0, .ref (tw_ad G 114)), (1, .int (nI 2))] 86 [.int (nI (bs.getD v 0)), .int (nI 41), .ref (tw_ad G 114)]
      refine tw_callV (As := [.int (nI 41), .int (nI (bs.getD v 0))]) (rest := []) C N (c_X11_set hM (B := B) (f := (upd f 40 (nI (240 % 256)))) (L := bs.length) (v := (v + 1)) (i := 41) (x := bs.getD v 0) (by omega)) mm_X11_set wd_605 rfl (hM 114 (by decide) (by decide)) sh_114 rfl (by decide) rfl (Nat.le_of_ble_eq_true rfl) dX11_unfoldPorts_86 ?_
      rintro _ _ rfl
      show TW G X (PU B (upd (upd f 40 (nI (240 % 256))) 41 (nI ((bs.getD v 0) % 256))) bs.length (v + 1)) [(0, .ref (tw_ad G 114)), (1, .int (nI 2))] 89 []
      refine tw_aload_n C dX11_unfoldPorts_89 0 rfl ?_
      refine tw_bipush C dX11_unfoldPorts_90 (v := nI 42) (by decide) ?_
      refine tw_iload_n C dX11_unfoldPorts_92 1 rfl ?_
      refine tw_iconst C dX11_unfoldPorts_93 (v := nI 1) (by decide) ?_
      refine tn_icmp_ne C dX11_unfoldPorts_94 (tgt := 103) (by decide) (by omega) (by omega) (fun c35 => ?_) (fun c35 => ?_)
      · skip
        refine tw_aload_n C dX11_unfoldPorts_103 0 rfl ?_
        refine tw_callV (As := []) (rest := [.int (nI 42), .ref (tw_ad G 114)]) C N (c_X11_next hM (B := B) (f := (upd (upd f 40 (nI (240 % 256))) 41 (nI ((bs.getD v 0) % 256)))) (bs := bs) (v := (v + 1)) hB h19 hbl) mm_X11_next wd_593 rfl (hM 114 (by decide) (by decide)) sh_114 rfl (by decide) rfl (Nat.le_of_ble_eq_true rfl) dX11_unfoldPorts_104 ?_
        rintro _ _ ⟨rfl, rfl⟩
        show TW G X (PU B (upd (upd f 40 (nI (240 % 256))) 41 (nI ((bs.getD v 0) % 256))) bs.length ((v + 1) + 1)) [(0, .ref (tw_ad G 114)), (1, .int (nI 2))] 107 [.int (nI (bs.getD (v + 1) 0)), .int (nI 42), .ref (tw_ad G 114)]
        refine tw_callV (As := [.int (nI 42), .int (nI (bs.getD (v + 1) 0))]) (rest := []) C N (c_X11_set hM (B := B) (f := (upd (upd f 40 (nI (240 % 256))) 41 (nI ((bs.getD v 0) % 256)))) (L := bs.length) (v := ((v + 1) + 1)) (i := 42) (x := bs.getD (v + 1) 0) (by omega)) mm_X11_set wd_605 rfl (hM 114 (by decide) (by decide)) sh_114 rfl (by decide) rfl (Nat.le_of_ble_eq_true rfl) dX11_unfoldPorts_107 ?_
        rintro _ _ rfl
        show TW G X (PU B (upd (upd (upd f 40 (nI (240 % 256))) 41 (nI ((bs.getD v 0) % 256))) 42 (nI ((bs.getD (v + 1) 0) % 256))) bs.length ((v + 1) + 1)) [(0, .ref (tw_ad G 114)), (1, .int (nI 2))] 110 []
        refine tw_aload_n C dX11_unfoldPorts_110 0 rfl ?_
        refine tw_bipush C dX11_unfoldPorts_111 (v := nI 43) (by decide) ?_
        refine tw_aload_n C dX11_unfoldPorts_113 0 rfl ?_
        refine tw_callV (As := []) (rest := [.int (nI 43), .ref (tw_ad G 114)]) C N (c_X11_next hM (B := B) (f := (upd (upd (upd f 40 (nI (240 % 256))) 41 (nI ((bs.getD v 0) % 256))) 42 (nI ((bs.getD (v + 1) 0) % 256)))) (bs := bs) (v := ((v + 1) + 1)) hB h19 hbl) mm_X11_next wd_593 rfl (hM 114 (by decide) (by decide)) sh_114 rfl (by decide) rfl (Nat.le_of_ble_eq_true rfl) dX11_unfoldPorts_114 ?_
        rintro _ _ ⟨rfl, rfl⟩
        show TW G X (PU B (upd (upd (upd f 40 (nI (240 % 256))) 41 (nI ((bs.getD v 0) % 256))) 42 (nI ((bs.getD (v + 1) 0) % 256))) bs.length (((v + 1) + 1) + 1)) [(0, .ref (tw_ad G 114)), (1, .int (nI 2))] 117 [.int (nI (bs.getD ((v + 1) + 1) 0)), .int (nI 43), .ref (tw_ad G 114)]
        refine tw_callV (As := [.int (nI 43), .int (nI (bs.getD ((v + 1) + 1) 0))]) (rest := []) C N (c_X11_set hM (B := B) (f := (upd (upd (upd f 40 (nI (240 % 256))) 41 (nI ((bs.getD v 0) % 256))) 42 (nI ((bs.getD (v + 1) 0) % 256)))) (L := bs.length) (v := (((v + 1) + 1) + 1)) (i := 43) (x := bs.getD ((v + 1) + 1) 0) (by omega)) mm_X11_set wd_605 rfl (hM 114 (by decide) (by decide)) sh_114 rfl (by decide) rfl (Nat.le_of_ble_eq_true rfl) dX11_unfoldPorts_117 ?_
        rintro _ _ rfl
        show TW G X (PU B (upd (upd (upd (upd f 40 (nI (240 % 256))) 41 (nI ((bs.getD v 0) % 256))) 42 (nI ((bs.getD (v + 1) 0) % 256))) 43 (nI ((bs.getD ((v + 1) + 1) 0) % 256))) bs.length (((v + 1) + 1) + 1)) [(0, .ref (tw_ad G 114)), (1, .int (nI 2))] 120 []
        refine tw_aload_n C dX11_unfoldPorts_120 0 rfl ?_
        refine tw_bipush C dX11_unfoldPorts_121 (v := nI 46) (by decide) ?_
        refine tw_aload_n C dX11_unfoldPorts_123 0 rfl ?_
        refine tw_callV (As := []) (rest := [.int (nI 46), .ref (tw_ad G 114)]) C N (c_X11_next hM (B := B) (f := (upd (upd (upd (upd f 40 (nI (240 % 256))) 41 (nI ((bs.getD v 0) % 256))) 42 (nI ((bs.getD (v + 1) 0) % 256))) 43 (nI ((bs.getD ((v + 1) + 1) 0) % 256)))) (bs := bs) (v := (((v + 1) + 1) + 1)) hB h19 hbl) mm_X11_next wd_593 rfl (hM 114 (by decide) (by decide)) sh_114 rfl (by decide) rfl (Nat.le_of_ble_eq_true rfl) dX11_unfoldPorts_124 ?_
        rintro _ _ ⟨rfl, rfl⟩
        show TW G X (PU B (upd (upd (upd (upd f 40 (nI (240 % 256))) 41 (nI ((bs.getD v 0) % 256))) 42 (nI ((bs.getD (v + 1) 0) % 256))) 43 (nI ((bs.getD ((v + 1) + 1) 0) % 256))) bs.length ((((v + 1) + 1) + 1) + 1)) [(0, .ref (tw_ad G 114)), (1, .int (nI 2))] 127 [.int (nI (bs.getD (((v + 1) + 1) + 1) 0)), .int (nI 46), .ref (tw_ad G 114)]
        refine tw_callV (As := [.int (nI 46), .int (nI (bs.getD (((v + 1) + 1) + 1) 0))]) (rest := []) C N (c_X11_set hM (B := B) (f := (upd (upd (upd (upd f 40 (nI (240 % 256))) 41 (nI ((bs.getD v 0) % 256))) 42 (nI ((bs.getD (v + 1) 0) % 256))) 43 (nI ((bs.getD ((v + 1) + 1) 0) % 256)))) (L := bs.length) (v := ((((v + 1) + 1) + 1) + 1)) (i := 46) (x := bs.getD (((v + 1) + 1) + 1) 0) (by omega)) mm_X11_set wd_605 rfl (hM 114 (by decide) (by decide)) sh_114 rfl (by decide) rfl (Nat.le_of_ble_eq_true rfl) dX11_unfoldPorts_127 ?_
        rintro _ _ rfl
        show TW G X (PU B (upd (upd (upd (upd (upd f 40 (nI (240 % 256))) 41 (nI ((bs.getD v 0) % 256))) 42 (nI ((bs.getD (v + 1) 0) % 256))) 43 (nI ((bs.getD ((v + 1) + 1) 0) % 256))) 46 (nI ((bs.getD (((v + 1) + 1) + 1) 0) % 256))) bs.length ((((v + 1) + 1) + 1) + 1)) [(0, .ref (tw_ad G 114)), (1, .int (nI 2))] 130 []
        refine tw_aload_n C dX11_unfoldPorts_130 0 rfl ?_
        refine tw_bipush C dX11_unfoldPorts_131 (v := nI 47) (by decide) ?_
        refine tw_aload_n C dX11_unfoldPorts_133 0 rfl ?_
        refine tw_callV (As := []) (rest := [.int (nI 47), .ref (tw_ad G 114)]) C N (c_X11_next hM (B := B) (f := (upd (upd (upd (upd (upd f 40 (nI (240 % 256))) 41 (nI ((bs.getD v 0) % 256))) 42 (nI ((bs.getD (v + 1) 0) % 256))) 43 (nI ((bs.getD ((v + 1) + 1) 0) % 256))) 46 (nI ((bs.getD (((v + 1) + 1) + 1) 0) % 256)))) (bs := bs) (v := ((((v + 1) + 1) + 1) + 1)) hB h19 hbl) mm_X11_next wd_593 rfl (hM 114 (by decide) (by decide)) sh_114 rfl (by decide) rfl (Nat.le_of_ble_eq_true rfl) dX11_unfoldPorts_134 ?_
        rintro _ _ ⟨rfl, rfl⟩
        show TW G X (PU B (upd (upd (upd (upd (upd f 40 (nI (240 % 256))) 41 (nI ((bs.getD v 0) % 256))) 42 (nI ((bs.getD (v + 1) 0) % 256))) 43 (nI ((bs.getD ((v + 1) + 1) 0) % 256))) 46 (nI ((bs.getD (((v + 1) + 1) + 1) 0) % 256))) bs.length (((((v + 1) + 1) + 1) + 1) + 1)) [(0, .ref (tw_ad G 114)), (1, .int (nI 2))] 137 [.int (nI (bs.getD ((((v + 1) + 1) + 1) + 1) 0)), .int (nI 47), .ref (tw_ad G 114)]
        refine tw_callV (As := [.int (nI 47), .int (nI (bs.getD ((((v + 1) + 1) + 1) + 1) 0))]) (rest := []) C N (c_X11_set hM (B := B) (f := (upd (upd (upd (upd (upd f 40 (nI (240 % 256))) 41 (nI ((bs.getD v 0) % 256))) 42 (nI ((bs.getD (v + 1) 0) % 256))) 43 (nI ((bs.getD ((v + 1) + 1) 0) % 256))) 46 (nI ((bs.getD (((v + 1) + 1) + 1) 0) % 256)))) (L := bs.length) (v := (((((v + 1) + 1) + 1) + 1) + 1)) (i := 47) (x := bs.getD ((((v + 1) + 1) + 1) + 1) 0) (by omega)) mm_X11_set wd_605 rfl (hM 114 (by decide) (by decide)) sh_114 rfl (by decide) rfl (Nat.le_of_ble_eq_true rfl) dX11_unfoldPorts_137 ?_
        rintro _ _ rfl
        show TW G X (PU B (upd (upd (upd (upd (upd (upd f 40 (nI (240 % 256))) 41 (nI ((bs.getD v 0) % 256))) 42 (nI ((bs.getD (v + 1) 0) % 256))) 43 (nI ((bs.getD ((v + 1) + 1) 0) % 256))) 46 (nI ((bs.getD (((v + 1) + 1) + 1) 0) % 256))) 47 (nI ((bs.getD ((((v + 1) + 1) + 1) + 1) 0) % 256))) bs.length (((((v + 1) + 1) + 1) + 1) + 1)) [(0, .ref (tw_ad G 114)), (1, .int (nI 2))] 140 []
        exact tw_return (v := ()) C Q dX11_unfoldPorts_140 rfl rfl ⟨_, rfl, BK_e (uPn_2 hbb v) (BK_4 rfl rfl rfl rfl), BK_e (nbc2 hbb (v + 1 + 1 + 1)) (BK_22 rfl rfl), fun q hq => by simp only [upd]; rw [if_neg (by omega), if_neg (by omega), if_neg (by omega), if_neg (by omega), if_neg (by omega), if_neg (by omega)]⟩
      · exact absurd c35 (by decide)
    · exact absurd c30 (by decide)
  · have htf : tfN 3 = 0 := rfl
    refine tw_iload_n C dX11_unfoldPorts_0 1 rfl ?_
    refine tw_iconst C dX11_unfoldPorts_1 (v := nI 3) (by decide) ?_
    refine tn_icmp_ne C dX11_unfoldPorts_2 (tgt := 58) (by decide) (by omega) (by omega) (fun c44 => ?_) (fun c44 => ?_)
    · exact absurd c44 (by decide)
    refine tw_aload_n C dX11_unfoldPorts_5 0 rfl ?_
    refine tw_callV (As := []) (rest := []) C N (c_X11_next hM (B := B) (f := f) (bs := bs) (v := v) hB h19 hbl) mm_X11_next wd_593 rfl (hM 114 (by decide) (by decide)) sh_114 rfl (by decide) rfl (Nat.le_of_ble_eq_true rfl) dX11_unfoldPorts_6 ?_
    rintro _ _ ⟨rfl, rfl⟩
    show TW G X (PU B f bs.length (v + 1)) [(0, .ref (tw_ad G 114)), (1, .int (nI 3))] 9 [.int (nI (bs.getD v 0))]
    refine tw_istore_n (L' := [(2, .int (nI (bs.getD v 0))), (0, .ref (tw_ad G 114)), (1, .int (nI 3))]) C N dX11_unfoldPorts_9 rfl (by decide) rfl ?_
    refine tw_aload_n C dX11_unfoldPorts_10 1 rfl ?_
    refine tw_bipush C dX11_unfoldPorts_11 (v := nI 40) (by decide) ?_
    refine tw_sipush C dX11_unfoldPorts_13 (v := nI 240) (by decide) ?_
    refine tw_callV (As := [.int (nI 40), .int (nI 240)]) (rest := []) C N (c_X11_set hM (B := B) (f := f) (L := bs.length) (v := (v + 1)) (i := 40) (x := 240) (by omega)) mm_X11_set wd_605 rfl (hM 114 (by decide) (by decide)) sh_114 rfl (by decide) rfl (Nat.le_of_ble_eq_true rfl) dX11_unfoldPorts_16 ?_
    rintro _ _ rfl
    show TW G X (PU B (upd f 40 (nI (240 % 256))) bs.length (v + 1)) [(2, .int (nI (bs.getD v 0))), (0, .ref (tw_ad G 114)), (1, .int (nI 3))] 19 []
    refine tw_aload_n C dX11_unfoldPorts_19 1 rfl ?_
    refine tw_bipush C dX11_unfoldPorts_20 (v := nI 41) (by decide) ?_
    refine tw_sipush C dX11_unfoldPorts_22 (v := nI 176) (by decide) ?_
    refine tw_iload_n C dX11_unfoldPorts_25 0 rfl ?_
    refine tw_iconst C dX11_unfoldPorts_26 (v := nI 4) (by decide) ?_
    refine tw_ishr C dX11_unfoldPorts_27 (v := nI ((bs.getD v 0) / 16)) (nI_shr (by omega) 4 (by decide)) ?_
    refine tw_ior C dX11_unfoldPorts_28 (v := nI (176 ||| ((bs.getD v 0) / 16))) (nI_or _ _) ?_
    refine tw_callV (As := [.int (nI 41), .int (nI (176 ||| ((bs.getD v 0) / 16)))]) (rest := []) C N (c_X11_set hM (B := B) (f := (upd f 40 (nI (240 % 256)))) (L := bs.length) (v := (v + 1)) (i := 41) (x := 176 ||| ((bs.getD v 0) / 16)) (by omega)) mm_X11_set wd_605 rfl (hM 114 (by decide) (by decide)) sh_114 rfl (by decide) rfl (Nat.le_of_ble_eq_true rfl) dX11_unfoldPorts_29 ?_
    rintro _ _ rfl
    show TW G X (PU B (upd (upd f 40 (nI (240 % 256))) 41 (nI ((176 ||| ((bs.getD v 0) / 16)) % 256))) bs.length (v + 1)) [(2, .int (nI (bs.getD v 0))), (0, .ref (tw_ad G 114)), (1, .int (nI 3))] 32 []
    refine tw_aload_n C dX11_unfoldPorts_32 1 rfl ?_
    refine tw_bipush C dX11_unfoldPorts_33 (v := nI 42) (by decide) ?_
    refine tw_sipush C dX11_unfoldPorts_35 (v := nI 240) (by decide) ?_
    refine tw_callV (As := [.int (nI 42), .int (nI 240)]) (rest := []) C N (c_X11_set hM (B := B) (f := (upd (upd f 40 (nI (240 % 256))) 41 (nI ((176 ||| ((bs.getD v 0) / 16)) % 256)))) (L := bs.length) (v := (v + 1)) (i := 42) (x := 240) (by omega)) mm_X11_set wd_605 rfl (hM 114 (by decide) (by decide)) sh_114 rfl (by decide) rfl (Nat.le_of_ble_eq_true rfl) dX11_unfoldPorts_38 ?_
    rintro _ _ rfl
    show TW G X (PU B (upd (upd (upd f 40 (nI (240 % 256))) 41 (nI ((176 ||| ((bs.getD v 0) / 16)) % 256))) 42 (nI (240 % 256))) bs.length (v + 1)) [(2, .int (nI (bs.getD v 0))), (0, .ref (tw_ad G 114)), (1, .int (nI 3))] 41 []
    refine tw_aload_n C dX11_unfoldPorts_41 1 rfl ?_
    refine tw_bipush C dX11_unfoldPorts_42 (v := nI 43) (by decide) ?_
    refine tw_sipush C dX11_unfoldPorts_44 (v := nI 176) (by decide) ?_
    refine tw_iload_n C dX11_unfoldPorts_47 0 rfl ?_
    refine tw_bipush C dX11_unfoldPorts_48 (v := nI 15) (by decide) ?_
    refine tw_iand C dX11_unfoldPorts_50 (v := nI ((bs.getD v 0) % 16)) (nI_andm 4 (by decide)) ?_
    refine tw_ior C dX11_unfoldPorts_51 (v := nI (176 ||| ((bs.getD v 0) % 16))) (nI_or _ _) ?_
    refine tw_callV (As := [.int (nI 43), .int (nI (176 ||| ((bs.getD v 0) % 16)))]) (rest := []) C N (c_X11_set hM (B := B) (f := (upd (upd (upd f 40 (nI (240 % 256))) 41 (nI ((176 ||| ((bs.getD v 0) / 16)) % 256))) 42 (nI (240 % 256)))) (L := bs.length) (v := (v + 1)) (i := 43) (x := 176 ||| ((bs.getD v 0) % 16)) (by omega)) mm_X11_set wd_605 rfl (hM 114 (by decide) (by decide)) sh_114 rfl (by decide) rfl (Nat.le_of_ble_eq_true rfl) dX11_unfoldPorts_52 ?_
    rintro _ _ rfl
    show TW G X (PU B (upd (upd (upd (upd f 40 (nI (240 % 256))) 41 (nI ((176 ||| ((bs.getD v 0) / 16)) % 256))) 42 (nI (240 % 256))) 43 (nI ((176 ||| ((bs.getD v 0) % 16)) % 256))) bs.length (v + 1)) [(2, .int (nI (bs.getD v 0))), (0, .ref (tw_ad G 114)), (1, .int (nI 3))] 55 []
    refine tw_goto C dX11_unfoldPorts_55 (tgt := 120) (by decide) ?_
    refine tw_aload_n C dX11_unfoldPorts_120 1 rfl ?_
    refine tw_bipush C dX11_unfoldPorts_121 (v := nI 46) (by decide) ?_
    refine tw_aload_n C dX11_unfoldPorts_123 1 rfl ?_
    refine tw_callV (As := []) (rest := [.int (nI 46), .ref (tw_ad G 114)]) C N (c_X11_next hM (B := B) (f := (upd (upd (upd (upd f 40 (nI (240 % 256))) 41 (nI ((176 ||| ((bs.getD v 0) / 16)) % 256))) 42 (nI (240 % 256))) 43 (nI ((176 ||| ((bs.getD v 0) % 16)) % 256)))) (bs := bs) (v := (v + 1)) hB h19 hbl) mm_X11_next wd_593 rfl (hM 114 (by decide) (by decide)) sh_114 rfl (by decide) rfl (Nat.le_of_ble_eq_true rfl) dX11_unfoldPorts_124 ?_
    rintro _ _ ⟨rfl, rfl⟩
    show TW G X (PU B (upd (upd (upd (upd f 40 (nI (240 % 256))) 41 (nI ((176 ||| ((bs.getD v 0) / 16)) % 256))) 42 (nI (240 % 256))) 43 (nI ((176 ||| ((bs.getD v 0) % 16)) % 256))) bs.length ((v + 1) + 1)) [(2, .int (nI (bs.getD v 0))), (0, .ref (tw_ad G 114)), (1, .int (nI 3))] 127 [.int (nI (bs.getD (v + 1) 0)), .int (nI 46), .ref (tw_ad G 114)]
    refine tw_callV (As := [.int (nI 46), .int (nI (bs.getD (v + 1) 0))]) (rest := []) C N (c_X11_set hM (B := B) (f := (upd (upd (upd (upd f 40 (nI (240 % 256))) 41 (nI ((176 ||| ((bs.getD v 0) / 16)) % 256))) 42 (nI (240 % 256))) 43 (nI ((176 ||| ((bs.getD v 0) % 16)) % 256)))) (L := bs.length) (v := ((v + 1) + 1)) (i := 46) (x := bs.getD (v + 1) 0) (by omega)) mm_X11_set wd_605 rfl (hM 114 (by decide) (by decide)) sh_114 rfl (by decide) rfl (Nat.le_of_ble_eq_true rfl) dX11_unfoldPorts_127 ?_
    rintro _ _ rfl
    show TW G X (PU B (upd (upd (upd (upd (upd f 40 (nI (240 % 256))) 41 (nI ((176 ||| ((bs.getD v 0) / 16)) % 256))) 42 (nI (240 % 256))) 43 (nI ((176 ||| ((bs.getD v 0) % 16)) % 256))) 46 (nI ((bs.getD (v + 1) 0) % 256))) bs.length ((v + 1) + 1)) [(2, .int (nI (bs.getD v 0))), (0, .ref (tw_ad G 114)), (1, .int (nI 3))] 130 []
    refine tw_aload_n C dX11_unfoldPorts_130 1 rfl ?_
    refine tw_bipush C dX11_unfoldPorts_131 (v := nI 47) (by decide) ?_
    refine tw_aload_n C dX11_unfoldPorts_133 1 rfl ?_
    refine tw_callV (As := []) (rest := [.int (nI 47), .ref (tw_ad G 114)]) C N (c_X11_next hM (B := B) (f := (upd (upd (upd (upd (upd f 40 (nI (240 % 256))) 41 (nI ((176 ||| ((bs.getD v 0) / 16)) % 256))) 42 (nI (240 % 256))) 43 (nI ((176 ||| ((bs.getD v 0) % 16)) % 256))) 46 (nI ((bs.getD (v + 1) 0) % 256)))) (bs := bs) (v := ((v + 1) + 1)) hB h19 hbl) mm_X11_next wd_593 rfl (hM 114 (by decide) (by decide)) sh_114 rfl (by decide) rfl (Nat.le_of_ble_eq_true rfl) dX11_unfoldPorts_134 ?_
    rintro _ _ ⟨rfl, rfl⟩
    show TW G X (PU B (upd (upd (upd (upd (upd f 40 (nI (240 % 256))) 41 (nI ((176 ||| ((bs.getD v 0) / 16)) % 256))) 42 (nI (240 % 256))) 43 (nI ((176 ||| ((bs.getD v 0) % 16)) % 256))) 46 (nI ((bs.getD (v + 1) 0) % 256))) bs.length (((v + 1) + 1) + 1)) [(2, .int (nI (bs.getD v 0))), (0, .ref (tw_ad G 114)), (1, .int (nI 3))] 137 [.int (nI (bs.getD ((v + 1) + 1) 0)), .int (nI 47), .ref (tw_ad G 114)]
    refine tw_callV (As := [.int (nI 47), .int (nI (bs.getD ((v + 1) + 1) 0))]) (rest := []) C N (c_X11_set hM (B := B) (f := (upd (upd (upd (upd (upd f 40 (nI (240 % 256))) 41 (nI ((176 ||| ((bs.getD v 0) / 16)) % 256))) 42 (nI (240 % 256))) 43 (nI ((176 ||| ((bs.getD v 0) % 16)) % 256))) 46 (nI ((bs.getD (v + 1) 0) % 256)))) (L := bs.length) (v := (((v + 1) + 1) + 1)) (i := 47) (x := bs.getD ((v + 1) + 1) 0) (by omega)) mm_X11_set wd_605 rfl (hM 114 (by decide) (by decide)) sh_114 rfl (by decide) rfl (Nat.le_of_ble_eq_true rfl) dX11_unfoldPorts_137 ?_
    rintro _ _ rfl
    show TW G X (PU B (upd (upd (upd (upd (upd (upd f 40 (nI (240 % 256))) 41 (nI ((176 ||| ((bs.getD v 0) / 16)) % 256))) 42 (nI (240 % 256))) 43 (nI ((176 ||| ((bs.getD v 0) % 16)) % 256))) 46 (nI ((bs.getD (v + 1) 0) % 256))) 47 (nI ((bs.getD ((v + 1) + 1) 0) % 256))) bs.length (((v + 1) + 1) + 1)) [(2, .int (nI (bs.getD v 0))), (0, .ref (tw_ad G 114)), (1, .int (nI 3))] 140 []
    exact tw_return (v := ()) C Q dX11_unfoldPorts_140 rfl rfl ⟨_, rfl, BK_e (uPn_3 hbb v) (BK_4 rfl rfl rfl rfl), BK_e (nbc2 hbb (v + 1)) (BK_22 rfl rfl), fun q hq => by simp only [upd]; rw [if_neg (by omega), if_neg (by omega), if_neg (by omega), if_neg (by omega), if_neg (by omega), if_neg (by omega)]⟩
theorem pF_io (L v : Nat) : (pF L v = 0 ∧ v ≤ L) ∨ (pF L v = 1 ∧ L < v) := by
  unfold pF
  split
  · exact Or.inl ⟨rfl, by assumption⟩
  · exact Or.inr ⟨rfl, by omega⟩
theorem and48m : ∀ x, x < 256 → (x &&& 48 = 0 ↔ x / 16 % 4 = 0) := by decide +kernel
theorem or4m {x y : Nat} (h : y < 4) : x * 4 ||| y = x * 4 + y := by
  have := Nat.two_pow_add_eq_or_of_lt (i := 2) (b := y) h x
  simp only [Nat.reducePow] at this
  rw [Nat.mul_comm x 4, this]
theorem or3b {x y z : Nat} (h : y < 256) (hz : z < 256) : ((x * 65536) ||| (y * 256)) ||| z = (x * 256 + y) * 256 + z := by
  have e1 := Nat.two_pow_add_eq_or_of_lt (i := 16) (b := y * 256) (by simp only [Nat.reducePow]; omega) x
  have e2 := Nat.two_pow_add_eq_or_of_lt (i := 8) (b := z) hz (x * 256 + y)
  simp only [Nat.reducePow] at e1 e2
  rw [Nat.mul_comm x 65536, ← e1, show 65536 * x + y * 256 = 256 * (x * 256 + y) by omega, ← e2]
  omega
theorem uT_2 {bs : List Nat} {u v : Nat} (hb : ∀ x ∈ bs, x < 256) (hu : u = 0 ∨ u = 2) : (bs.getD v 0 % 64 * 4) ||| (bs.getD v 0 / 64) = uT bs u v := by
  have h := gD_lt hb v
  rw [or4m (by omega)]
  rcases hu with rfl | rfl <;> rfl
theorem uT_1 {bs : List Nat} {v : Nat} : 0 ||| (bs.getD v 0 / 64) = uT bs 1 v := by
  rw [Nat.zero_or]
  show _ = 0 * 4 + bs.getD v 0 / 64
  omega
theorem uL_0 {bs : List Nat} {v : Nat} (hb : ∀ x ∈ bs, x < 256) : ((bs.getD (v + 1) 0 * 65536) ||| (bs.getD (v + 1 + 1) 0 * 256)) ||| bs.getD (v + 1 + 1 + 1) 0 = uL bs 0 v := by
  rw [or3b (gD_lt hb _) (gD_lt hb _)]
  show _ = nb bs (v + 1) 3
  rw [nb3]
theorem uL_1 {bs : List Nat} {v : Nat} (hb : ∀ x ∈ bs, x < 256) : ((bs.getD v 0 % 16 * 65536) ||| (bs.getD (v + 1) 0 * 256)) ||| bs.getD (v + 1 + 1) 0 = uL bs 1 v := by
  have h1 := gD_lt hb (v + 1)
  have h2 := gD_lt hb (v + 2)
  rw [or3b (gD_lt hb _) (gD_lt hb _)]
  show _ = nb bs v 3 % 1048576
  rw [nb3]
  show (bs.getD v 0 % 16 * 256 + bs.getD (v + 1) 0) * 256 + bs.getD (v + 2) 0 = _
  omega
theorem uL_2 {bs : List Nat} {v : Nat} : ((0 * 65536) ||| (0 * 256)) ||| 0 = uL bs 2 v := rfl
theorem uT_3 {bs : List Nat} {v : Nat} : 0 = uT bs 3 v ∧ 0 = uL bs 3 v := by simp [uT, uL, uFb]
theorem uT_le {bs : List Nat} {u v : Nat} (hb : ∀ x ∈ bs, x < 256) : uT bs u v ≤ 255 := by
  have h : uFb bs u v < 256 := by
    unfold uFb
    split
    · decide
    · exact gD_lt hb v
  unfold uT
  split <;> omega
theorem c_X11_unfoldsFirst {G : tw_G} (hM : tw_mG G) {B : tw_S} {f : Nat → Int32} {bs : List Nat} (hB : LA (tw_A B 121) bs) (h19 : tw_I B 114 19 = nI bs.length) (hbl : bs.length ≤ 640) {v : Nat} (hbb : ∀ x ∈ bs, x < 256) {u : Nat} (hu : u < 4) (hv : v ≤ bs.length) : tw_M G yX11_unfoldsFirst cX11_unfoldsFirst 9 (some .boolean) 2 43 [.ref (tw_ad G 114), .int (nI u)] ((PU B f bs.length v)) ri_I (fun x S' => (bs.length < v + tfN u ∧ x = nI 0 ∧ S' = PU B f bs.length (v + tfN u)) ∨ (v + tfN u ≤ bs.length ∧ uWr bs u v ≠ 0 ∧ x = nI 0 ∧ S' = tw_uI (tw_uI (PU B f bs.length (v + tfN u)) 114 21 (nI 5)) 114 22 (nI v)) ∨ (v + tfN u ≤ bs.length ∧ uWr bs u v = 0 ∧ x = nI 1 ∧ ∃ g, S' = PU B g bs.length (v + tfN u) ∧ BK g 0 (be (ff (uT bs u v) (uL bs u v)) 4) ∧ ∀ q, 4 ≤ q → g q = f q)) := by
  refine tw_M.of (L := [(0, .ref (tw_ad G 114)), (1, .int (nI u))]) (by decide) (Nat.le_of_ble_eq_true rfl) rfl (fun X C N Q => ?_)
  have C : tw_C G X cX11_unfoldsFirst RX11 := C
  have t157 : uT bs u v ≤ 255 → uL bs u v ≤ 1048575 → uWr bs u v = 0 → v + tfN u ≤ bs.length → TW G X (PU B f bs.length (v + tfN u)) [(3, .int (nI (uT bs u v))), (4, .int (nI (uL bs u v))), (0, .ref (tw_ad G 114)), (1, .int (nI u))] 157 [] := by
    intro htl hll hwr hle
    refine tw_aload_n C dX11_unfoldsFirst_157 2 rfl ?_
    refine tw_iconst C dX11_unfoldsFirst_158 (v := nI 0) (by decide) ?_
    refine tw_bipush C dX11_unfoldsFirst_159 (v := nI 96) (by decide) ?_
    refine tw_iload_n C dX11_unfoldsFirst_161 0 rfl ?_
    refine tw_iconst C dX11_unfoldsFirst_162 (v := nI 4) (by decide) ?_
    refine tw_ishr C dX11_unfoldsFirst_163 (v := nI ((uT bs u v) / 16)) (nI_shr (by omega) 4 (by decide)) ?_
    refine tw_ior C dX11_unfoldsFirst_164 (v := nI (96 ||| ((uT bs u v) / 16))) (nI_or _ _) ?_
    refine tw_callV (As := [.int (nI 0), .int (nI (96 ||| ((uT bs u v) / 16)))]) (rest := []) C N (c_X11_set hM (B := B) (f := f) (L := bs.length) (v := (v + tfN u)) (i := 0) (x := 96 ||| ((uT bs u v) / 16)) (by omega)) mm_X11_set wd_605 rfl (hM 114 (by decide) (by decide)) sh_114 rfl (by decide) rfl (Nat.le_of_ble_eq_true rfl) dX11_unfoldsFirst_165 ?_
    rintro _ _ rfl
    show TW G X (PU B (upd f 0 (nI ((96 ||| ((uT bs u v) / 16)) % 256))) bs.length (v + tfN u)) [(3, .int (nI (uT bs u v))), (4, .int (nI (uL bs u v))), (0, .ref (tw_ad G 114)), (1, .int (nI u))] 168 []
    refine tw_aload_n C dX11_unfoldsFirst_168 2 rfl ?_
    refine tw_iconst C dX11_unfoldsFirst_169 (v := nI 1) (by decide) ?_
    refine tw_iload_n C dX11_unfoldsFirst_170 0 rfl ?_
    refine tw_bipush C dX11_unfoldsFirst_171 (v := nI 15) (by decide) ?_
    refine tw_iand C dX11_unfoldsFirst_173 (v := nI ((uT bs u v) % 16)) (nI_andm 4 (by decide)) ?_
    refine tw_iconst C dX11_unfoldsFirst_174 (v := nI 4) (by decide) ?_
    refine tw_ishl C dX11_unfoldsFirst_175 (v := nI (((uT bs u v) % 16) * 16)) (nI_shl _ 4 (by decide)) ?_
    refine tw_iload C dX11_unfoldsFirst_176 1 rfl ?_
    refine tw_bipush C dX11_unfoldsFirst_178 (v := nI 16) (by decide) ?_
    refine tw_ishr C dX11_unfoldsFirst_180 (v := nI ((uL bs u v) / 65536)) (nI_shr (by omega) 16 (by decide)) ?_
    refine tw_ior C dX11_unfoldsFirst_181 (v := nI ((((uT bs u v) % 16) * 16) ||| ((uL bs u v) / 65536))) (nI_or _ _) ?_
    refine tw_callV (As := [.int (nI 1), .int (nI ((((uT bs u v) % 16) * 16) ||| ((uL bs u v) / 65536)))]) (rest := []) C N (c_X11_set hM (B := B) (f := (upd f 0 (nI ((96 ||| ((uT bs u v) / 16)) % 256)))) (L := bs.length) (v := (v + tfN u)) (i := 1) (x := (((uT bs u v) % 16) * 16) ||| ((uL bs u v) / 65536)) (by omega)) mm_X11_set wd_605 rfl (hM 114 (by decide) (by decide)) sh_114 rfl (by decide) rfl (Nat.le_of_ble_eq_true rfl) dX11_unfoldsFirst_182 ?_
    rintro _ _ rfl
    show TW G X (PU B (upd (upd f 0 (nI ((96 ||| ((uT bs u v) / 16)) % 256))) 1 (nI (((((uT bs u v) % 16) * 16) ||| ((uL bs u v) / 65536)) % 256))) bs.length (v + tfN u)) [(3, .int (nI (uT bs u v))), (4, .int (nI (uL bs u v))), (0, .ref (tw_ad G 114)), (1, .int (nI u))] 185 []
    refine tw_aload_n C dX11_unfoldsFirst_185 2 rfl ?_
    refine tw_iconst C dX11_unfoldsFirst_186 (v := nI 2) (by decide) ?_
    refine tw_iload C dX11_unfoldsFirst_187 1 rfl ?_
    refine tw_bipush C dX11_unfoldsFirst_189 (v := nI 8) (by decide) ?_
    refine tw_ishr C dX11_unfoldsFirst_191 (v := nI ((uL bs u v) / 256)) (nI_shr (by omega) 8 (by decide)) ?_
    refine tw_callV (As := [.int (nI 2), .int (nI ((uL bs u v) / 256))]) (rest := []) C N (c_X11_set hM (B := B) (f := (upd (upd f 0 (nI ((96 ||| ((uT bs u v) / 16)) % 256))) 1 (nI (((((uT bs u v) % 16) * 16) ||| ((uL bs u v) / 65536)) % 256)))) (L := bs.length) (v := (v + tfN u)) (i := 2) (x := (uL bs u v) / 256) (by omega)) mm_X11_set wd_605 rfl (hM 114 (by decide) (by decide)) sh_114 rfl (by decide) rfl (Nat.le_of_ble_eq_true rfl) dX11_unfoldsFirst_192 ?_
    rintro _ _ rfl
    show TW G X (PU B (upd (upd (upd f 0 (nI ((96 ||| ((uT bs u v) / 16)) % 256))) 1 (nI (((((uT bs u v) % 16) * 16) ||| ((uL bs u v) / 65536)) % 256))) 2 (nI (((uL bs u v) / 256) % 256))) bs.length (v + tfN u)) [(3, .int (nI (uT bs u v))), (4, .int (nI (uL bs u v))), (0, .ref (tw_ad G 114)), (1, .int (nI u))] 195 []
    refine tw_aload_n C dX11_unfoldsFirst_195 2 rfl ?_
    refine tw_iconst C dX11_unfoldsFirst_196 (v := nI 3) (by decide) ?_
    refine tw_iload C dX11_unfoldsFirst_197 1 rfl ?_
    refine tw_callV (As := [.int (nI 3), .int (nI (uL bs u v))]) (rest := []) C N (c_X11_set hM (B := B) (f := (upd (upd (upd f 0 (nI ((96 ||| ((uT bs u v) / 16)) % 256))) 1 (nI (((((uT bs u v) % 16) * 16) ||| ((uL bs u v) / 65536)) % 256))) 2 (nI (((uL bs u v) / 256) % 256)))) (L := bs.length) (v := (v + tfN u)) (i := 3) (x := uL bs u v) (by omega)) mm_X11_set wd_605 rfl (hM 114 (by decide) (by decide)) sh_114 rfl (by decide) rfl (Nat.le_of_ble_eq_true rfl) dX11_unfoldsFirst_199 ?_
    rintro _ _ rfl
    show TW G X (PU B (upd (upd (upd (upd f 0 (nI ((96 ||| ((uT bs u v) / 16)) % 256))) 1 (nI (((((uT bs u v) % 16) * 16) ||| ((uL bs u v) / 65536)) % 256))) 2 (nI (((uL bs u v) / 256) % 256))) 3 (nI ((uL bs u v) % 256))) bs.length (v + tfN u)) [(3, .int (nI (uT bs u v))), (4, .int (nI (uL bs u v))), (0, .ref (tw_ad G 114)), (1, .int (nI u))] 202 []
    refine tw_iconst C dX11_unfoldsFirst_202 (v := nI 1) (by decide) ?_
    exact tw_ireturn C Q dX11_unfoldsFirst_203 rfl rfl rfl (Or.inr (Or.inr ⟨hle, hwr, rfl, _, rfl, BK_e (ff4 htl hll) (BK_4 rfl rfl rfl rfl), fun q hq => by simp only [upd]; rw [if_neg (by omega), if_neg (by omega), if_neg (by omega), if_neg (by omega)]⟩))
  have hb0 := gD_lt hbb v
  have hb1 := gD_lt hbb (v + 1)
  have hb2 := gD_lt hbb (v + 1 + 1)
  have hb3 := gD_lt hbb (v + 1 + 1 + 1)
  rcases (show u = 0 ∨ u = 1 ∨ u = 2 ∨ u = 3 by omega) with rfl | rfl | rfl | rfl
  · have htf : tfN 0 = 4 := rfl
    refine tw_aload_n C dX11_unfoldsFirst_0 0 rfl ?_
    refine tw_getI (v := nI v) (k := 20) C dX11_unfoldsFirst_1 fc_X11 sh_114 (hM 114 (by decide) (by decide)) rfl (by decide) wd_592 (by show nI (pA bs.length v) = _; rw [pA, Nat.min_eq_left hv]) ?_
    refine tw_istore_n (L' := [(2, .int (nI v)), (0, .ref (tw_ad G 114)), (1, .int (nI 0))]) C N dX11_unfoldsFirst_4 rfl (by decide) rfl ?_
    refine tw_iconst C dX11_unfoldsFirst_5 (v := nI 0) (by decide) ?_
    refine tw_istore_n (L' := [(3, .int (nI 0)), (2, .int (nI v)), (0, .ref (tw_ad G 114)), (1, .int (nI 0))]) C N dX11_unfoldsFirst_6 rfl (by decide) rfl ?_
    refine tw_iconst C dX11_unfoldsFirst_7 (v := nI 0) (by decide) ?_
    refine tw_istore (L' := [(4, .int (nI 0)), (3, .int (nI 0)), (2, .int (nI v)), (0, .ref (tw_ad G 114)), (1, .int (nI 0))]) C N dX11_unfoldsFirst_8 (i := 4) (by decide) rfl ?_
    refine tw_iload_n C dX11_unfoldsFirst_10 4 rfl ?_
    refine tw_iconst C dX11_unfoldsFirst_11 (v := nI 3) (by decide) ?_
    refine tn_icmp_ge C dX11_unfoldsFirst_12 (tgt := 157) (by decide) (by omega) (by omega) (fun c1 => ?_) (fun c1 => ?_)
    · exact absurd c1 (by decide)
    refine tw_aload_n C dX11_unfoldsFirst_15 3 rfl ?_
    refine tw_callV (As := []) (rest := []) C N (c_X11_next hM (B := B) (f := f) (bs := bs) (v := v) hB h19 hbl) mm_X11_next wd_593 rfl (hM 114 (by decide) (by decide)) sh_114 rfl (by decide) rfl (Nat.le_of_ble_eq_true rfl) dX11_unfoldsFirst_16 ?_
    rintro _ _ ⟨rfl, rfl⟩
    show TW G X (PU B f bs.length (v + 1)) [(4, .int (nI 0)), (3, .int (nI 0)), (2, .int (nI v)), (0, .ref (tw_ad G 114)), (1, .int (nI 0))] 19 [.int (nI (bs.getD v 0))]
    refine tw_istore (L' := [(5, .int (nI (bs.getD v 0))), (4, .int (nI 0)), (3, .int (nI 0)), (2, .int (nI v)), (0, .ref (tw_ad G 114)), (1, .int (nI 0))]) C N dX11_unfoldsFirst_19 (i := 5) (by decide) rfl ?_
    refine tw_iload_n C dX11_unfoldsFirst_21 5 rfl ?_
    refine tw_iconst C dX11_unfoldsFirst_22 (v := nI 1) (by decide) ?_
    refine tn_icmp_ne C dX11_unfoldsFirst_23 (tgt := 30) (by decide) (by omega) (by omega) (fun c3 => ?_) (fun c3 => ?_)
    · skip
      refine tw_iload C dX11_unfoldsFirst_30 0 rfl ?_
      refine tw_bipush C dX11_unfoldsFirst_32 (v := nI 63) (by decide) ?_
      refine tw_iand C dX11_unfoldsFirst_34 (v := nI ((bs.getD v 0) % 64)) (nI_andm 6 (by decide)) ?_
      refine tw_iconst C dX11_unfoldsFirst_35 (v := nI 2) (by decide) ?_
      refine tw_ishl C dX11_unfoldsFirst_36 (v := nI (((bs.getD v 0) % 64) * 4)) (nI_shl _ 2 (by decide)) ?_
      refine tw_iload C dX11_unfoldsFirst_37 0 rfl ?_
      refine tw_bipush C dX11_unfoldsFirst_39 (v := nI 6) (by decide) ?_
      refine tw_ishr C dX11_unfoldsFirst_41 (v := nI ((bs.getD v 0) / 64)) (nI_shr (by omega) 6 (by decide)) ?_
      refine tw_ior C dX11_unfoldsFirst_42 (v := nI ((((bs.getD v 0) % 64) * 4) ||| ((bs.getD v 0) / 64))) (nI_or _ _) ?_
      refine tw_istore_n (L' := [(3, .int (nI ((((bs.getD v 0) % 64) * 4) ||| ((bs.getD v 0) / 64)))), (5, .int (nI (bs.getD v 0))), (4, .int (nI 0)), (2, .int (nI v)), (0, .ref (tw_ad G 114)), (1, .int (nI 0))]) C N dX11_unfoldsFirst_43 rfl (by decide) rfl ?_
      refine tw_iload_n C dX11_unfoldsFirst_44 5 rfl ?_
      refine tn_if_ne C dX11_unfoldsFirst_45 (tgt := 55) (by decide) (by omega) (fun c4 => ?_) (fun c4 => ?_)
      · exact absurd c4 (by decide)
      refine tw_aload_n C dX11_unfoldsFirst_48 4 rfl ?_
      refine tw_callV (As := []) (rest := []) C N (c_X11_next hM (B := B) (f := f) (bs := bs) (v := (v + 1)) hB h19 hbl) mm_X11_next wd_593 rfl (hM 114 (by decide) (by decide)) sh_114 rfl (by decide) rfl (Nat.le_of_ble_eq_true rfl) dX11_unfoldsFirst_49 ?_
      rintro _ _ ⟨rfl, rfl⟩
      show TW G X (PU B f bs.length ((v + 1) + 1)) [(3, .int (nI ((((bs.getD v 0) % 64) * 4) ||| ((bs.getD v 0) / 64)))), (5, .int (nI (bs.getD v 0))), (4, .int (nI 0)), (2, .int (nI v)), (0, .ref (tw_ad G 114)), (1, .int (nI 0))] 52 [.int (nI (bs.getD (v + 1) 0))]
      refine tw_goto C dX11_unfoldsFirst_52 (tgt := 69) (by decide) ?_
      refine tw_istore (L' := [(6, .int (nI (bs.getD (v + 1) 0))), (3, .int (nI ((((bs.getD v 0) % 64) * 4) ||| ((bs.getD v 0) / 64)))), (5, .int (nI (bs.getD v 0))), (4, .int (nI 0)), (2, .int (nI v)), (0, .ref (tw_ad G 114)), (1, .int (nI 0))]) C N dX11_unfoldsFirst_69 (i := 6) (by decide) rfl ?_
      refine tw_iload_n C dX11_unfoldsFirst_71 6 rfl ?_
      refine tw_iconst C dX11_unfoldsFirst_72 (v := nI 2) (by decide) ?_
      refine tn_icmp_ge C dX11_unfoldsFirst_73 (tgt := 83) (by decide) (by omega) (by omega) (fun c6 => ?_) (fun c6 => ?_)
      · exact absurd c6 (by decide)
      refine tw_aload_n C dX11_unfoldsFirst_76 5 rfl ?_
      refine tw_callV (As := []) (rest := []) C N (c_X11_next hM (B := B) (f := f) (bs := bs) (v := ((v + 1) + 1)) hB h19 hbl) mm_X11_next wd_593 rfl (hM 114 (by decide) (by decide)) sh_114 rfl (by decide) rfl (Nat.le_of_ble_eq_true rfl) dX11_unfoldsFirst_77 ?_
      rintro _ _ ⟨rfl, rfl⟩
      show TW G X (PU B f bs.length (((v + 1) + 1) + 1)) [(6, .int (nI (bs.getD (v + 1) 0))), (3, .int (nI ((((bs.getD v 0) % 64) * 4) ||| ((bs.getD v 0) / 64)))), (5, .int (nI (bs.getD v 0))), (4, .int (nI 0)), (2, .int (nI v)), (0, .ref (tw_ad G 114)), (1, .int (nI 0))] 80 [.int (nI (bs.getD ((v + 1) + 1) 0))]
      refine tw_goto C dX11_unfoldsFirst_80 (tgt := 84) (by decide) ?_
      refine tw_istore (L' := [(7, .int (nI (bs.getD ((v + 1) + 1) 0))), (6, .int (nI (bs.getD (v + 1) 0))), (3, .int (nI ((((bs.getD v 0) % 64) * 4) ||| ((bs.getD v 0) / 64)))), (5, .int (nI (bs.getD v 0))), (4, .int (nI 0)), (2, .int (nI v)), (0, .ref (tw_ad G 114)), (1, .int (nI 0))]) C N dX11_unfoldsFirst_84 (i := 7) (by decide) rfl ?_
      refine tw_iload_n C dX11_unfoldsFirst_86 7 rfl ?_
      refine tw_iconst C dX11_unfoldsFirst_87 (v := nI 2) (by decide) ?_
      refine tn_icmp_ge C dX11_unfoldsFirst_88 (tgt := 98) (by decide) (by omega) (by omega) (fun c8 => ?_) (fun c8 => ?_)
      · exact absurd c8 (by decide)
      refine tw_aload_n C dX11_unfoldsFirst_91 6 rfl ?_
      refine tw_callV (As := []) (rest := []) C N (c_X11_next hM (B := B) (f := f) (bs := bs) (v := (((v + 1) + 1) + 1)) hB h19 hbl) mm_X11_next wd_593 rfl (hM 114 (by decide) (by decide)) sh_114 rfl (by decide) rfl (Nat.le_of_ble_eq_true rfl) dX11_unfoldsFirst_92 ?_
      rintro _ _ ⟨rfl, rfl⟩
      show TW G X (PU B f bs.length ((((v + 1) + 1) + 1) + 1)) [(7, .int (nI (bs.getD ((v + 1) + 1) 0))), (6, .int (nI (bs.getD (v + 1) 0))), (3, .int (nI ((((bs.getD v 0) % 64) * 4) ||| ((bs.getD v 0) / 64)))), (5, .int (nI (bs.getD v 0))), (4, .int (nI 0)), (2, .int (nI v)), (0, .ref (tw_ad G 114)), (1, .int (nI 0))] 95 [.int (nI (bs.getD (((v + 1) + 1) + 1) 0))]
      refine tw_goto C dX11_unfoldsFirst_95 (tgt := 99) (by decide) ?_
      refine tw_istore (L' := [(8, .int (nI (bs.getD (((v + 1) + 1) + 1) 0))), (7, .int (nI (bs.getD ((v + 1) + 1) 0))), (6, .int (nI (bs.getD (v + 1) 0))), (3, .int (nI ((((bs.getD v 0) % 64) * 4) ||| ((bs.getD v 0) / 64)))), (5, .int (nI (bs.getD v 0))), (4, .int (nI 0)), (2, .int (nI v)), (0, .ref (tw_ad G 114)), (1, .int (nI 0))]) C N dX11_unfoldsFirst_99 (i := 8) (by decide) rfl ?_
      refine tw_aload_n C dX11_unfoldsFirst_101 7 rfl ?_
      refine tw_getI (v := nI (pF bs.length ((((v + 1) + 1) + 1) + 1))) (k := 21) C dX11_unfoldsFirst_102 fc_X11 sh_114 (hM 114 (by decide) (by decide)) rfl (by decide) wd_584 rfl ?_
      have hpf := pF_io bs.length ((((v + 1) + 1) + 1) + 1)
      refine tn_if_le C dX11_unfoldsFirst_105 (tgt := 110) (by decide) (by omega) (fun c10 => ?_) (fun c10 => ?_)
      · skip
        refine tw_iload_n C dX11_unfoldsFirst_110 8 rfl ?_
        refine tn_if_ne C dX11_unfoldsFirst_111 (tgt := 121) (by decide) (by omega) (fun c11 => ?_) (fun c11 => ?_)
        · exact absurd c11 (by decide)
        refine tw_iload C dX11_unfoldsFirst_114 2 rfl ?_
        refine tw_iconst C dX11_unfoldsFirst_116 (v := nI 4) (by decide) ?_
        refine tw_ishr C dX11_unfoldsFirst_117 (v := nI ((bs.getD (v + 1) 0) / 16)) (nI_shr (by omega) 4 (by decide)) ?_
        refine tn_if_ne C dX11_unfoldsFirst_118 (tgt := 134) (by decide) (by omega) (fun c118 => ?_) (fun c118 => ?_)
        · have hwr : uWr bs 0 v ≠ 0 := by show nb bs (v + 1) 3 / 1048576 ≠ 0; rw [nb3]; omega
          refine tw_aload_n C dX11_unfoldsFirst_134 7 rfl ?_
          refine tw_iconst C dX11_unfoldsFirst_135 (v := nI 5) (by decide) ?_
          refine tw_iload_n C dX11_unfoldsFirst_136 6 rfl ?_
          refine tw_callV (As := [.int (nI 5), .int (nI v)]) (rest := []) C N (c_X11_fails hM (S := PU B f bs.length ((((v + 1) + 1) + 1) + 1)) (w := 5) (u := v) (by omega) (by show nI (pF bs.length ((((v + 1) + 1) + 1) + 1)) = nI 0; rw [show pF bs.length ((((v + 1) + 1) + 1) + 1) = 0 by omega])) mm_X11_fails wd_597 rfl (hM 114 (by decide) (by decide)) sh_114 rfl (by decide) rfl (Nat.le_of_ble_eq_true rfl) dX11_unfoldsFirst_137 ?_
          rintro _ _ ⟨rfl, rfl⟩
          show TW G X (tw_uI (tw_uI (PU B f bs.length ((((v + 1) + 1) + 1) + 1)) 114 21 (nI 5)) 114 22 (nI v)) [(8, .int (nI (bs.getD (((v + 1) + 1) + 1) 0))), (7, .int (nI (bs.getD ((v + 1) + 1) 0))), (6, .int (nI (bs.getD (v + 1) 0))), (3, .int (nI ((((bs.getD v 0) % 64) * 4) ||| ((bs.getD v 0) / 64)))), (5, .int (nI (bs.getD v 0))), (4, .int (nI 0)), (2, .int (nI v)), (0, .ref (tw_ad G 114)), (1, .int (nI 0))] 140 [.int (nI 0)]
          exact tw_ireturn C Q dX11_unfoldsFirst_140 rfl rfl rfl (Or.inr (Or.inl ⟨by omega, hwr, rfl, rfl⟩))
        · have hwr0 : uWr bs 0 v = 0 := by show nb bs (v + 1) 3 / 1048576 = 0; rw [nb3]; have k1 := gD_lt hbb (v + 1 + 1); have k2 := gD_lt hbb (v + 1 + 2); omega
          have hll0 : uL bs 0 v ≤ 1048575 := by show nb bs (v + 1) 3 ≤ _; rw [nb3]; have k1 := gD_lt hbb (v + 1 + 1); have k2 := gD_lt hbb (v + 1 + 2); omega
          refine tw_iload_n C dX11_unfoldsFirst_121 8 rfl ?_
          refine tw_iconst C dX11_unfoldsFirst_122 (v := nI 1) (by decide) ?_
          refine tn_icmp_ne C dX11_unfoldsFirst_123 (tgt := 141) (by decide) (by omega) (by omega) (fun c13 => ?_) (fun c13 => ?_)
          · skip
            refine tw_iload C dX11_unfoldsFirst_141 2 rfl ?_
            refine tw_bipush C dX11_unfoldsFirst_143 (v := nI 16) (by decide) ?_
            refine tw_ishl C dX11_unfoldsFirst_145 (v := nI ((bs.getD (v + 1) 0) * 65536)) (nI_shl _ 16 (by decide)) ?_
            refine tw_iload C dX11_unfoldsFirst_146 1 rfl ?_
            refine tw_bipush C dX11_unfoldsFirst_148 (v := nI 8) (by decide) ?_
            refine tw_ishl C dX11_unfoldsFirst_150 (v := nI ((bs.getD ((v + 1) + 1) 0) * 256)) (nI_shl _ 8 (by decide)) ?_
            refine tw_ior C dX11_unfoldsFirst_151 (v := nI (((bs.getD (v + 1) 0) * 65536) ||| ((bs.getD ((v + 1) + 1) 0) * 256))) (nI_or _ _) ?_
            refine tw_iload C dX11_unfoldsFirst_152 0 rfl ?_
            refine tw_ior C dX11_unfoldsFirst_154 (v := nI ((((bs.getD (v + 1) 0) * 65536) ||| ((bs.getD ((v + 1) + 1) 0) * 256)) ||| (bs.getD (((v + 1) + 1) + 1) 0))) (nI_or _ _) ?_
            refine tw_istore (L' := [(4, .int (nI ((((bs.getD (v + 1) 0) * 65536) ||| ((bs.getD ((v + 1) + 1) 0) * 256)) ||| (bs.getD (((v + 1) + 1) + 1) 0)))), (8, .int (nI (bs.getD (((v + 1) + 1) + 1) 0))), (7, .int (nI (bs.getD ((v + 1) + 1) 0))), (6, .int (nI (bs.getD (v + 1) 0))), (3, .int (nI ((((bs.getD v 0) % 64) * 4) ||| ((bs.getD v 0) / 64)))), (5, .int (nI (bs.getD v 0))), (2, .int (nI v)), (0, .ref (tw_ad G 114)), (1, .int (nI 0))]) C N dX11_unfoldsFirst_155 (i := 4) (by decide) rfl ?_
            refine TW.c (L' := [(3, .int (nI (uT bs 0 v))), (4, .int (nI (uL bs 0 v))), (0, .ref (tw_ad G 114)), (1, .int (nI 0))]) (by rw [← uT_2 hbb (Or.inl rfl), ← uL_0 hbb]; simp) ?_
            exact t157 (uT_le hbb) hll0 hwr0 (by omega)
          · exact absurd c13 (by decide)
      · skip
        refine tw_iconst C dX11_unfoldsFirst_108 (v := nI 0) (by decide) ?_
        exact tw_ireturn C Q dX11_unfoldsFirst_109 rfl rfl rfl (Or.inl ⟨by omega, rfl, rfl⟩)
    · exact absurd c3 (by decide)
  · have htf : tfN 1 = 3 := rfl
    refine tw_aload_n C dX11_unfoldsFirst_0 0 rfl ?_
    refine tw_getI (v := nI v) (k := 20) C dX11_unfoldsFirst_1 fc_X11 sh_114 (hM 114 (by decide) (by decide)) rfl (by decide) wd_592 (by show nI (pA bs.length v) = _; rw [pA, Nat.min_eq_left hv]) ?_
    refine tw_istore_n (L' := [(2, .int (nI v)), (0, .ref (tw_ad G 114)), (1, .int (nI 1))]) C N dX11_unfoldsFirst_4 rfl (by decide) rfl ?_
    refine tw_iconst C dX11_unfoldsFirst_5 (v := nI 0) (by decide) ?_
    refine tw_istore_n (L' := [(3, .int (nI 0)), (2, .int (nI v)), (0, .ref (tw_ad G 114)), (1, .int (nI 1))]) C N dX11_unfoldsFirst_6 rfl (by decide) rfl ?_
    refine tw_iconst C dX11_unfoldsFirst_7 (v := nI 0) (by decide) ?_
    refine tw_istore (L' := [(4, .int (nI 0)), (3, .int (nI 0)), (2, .int (nI v)), (0, .ref (tw_ad G 114)), (1, .int (nI 1))]) C N dX11_unfoldsFirst_8 (i := 4) (by decide) rfl ?_
    refine tw_iload_n C dX11_unfoldsFirst_10 4 rfl ?_
    refine tw_iconst C dX11_unfoldsFirst_11 (v := nI 3) (by decide) ?_
    refine tn_icmp_ge C dX11_unfoldsFirst_12 (tgt := 157) (by decide) (by omega) (by omega) (fun c14 => ?_) (fun c14 => ?_)
    · exact absurd c14 (by decide)
    refine tw_aload_n C dX11_unfoldsFirst_15 3 rfl ?_
    refine tw_callV (As := []) (rest := []) C N (c_X11_next hM (B := B) (f := f) (bs := bs) (v := v) hB h19 hbl) mm_X11_next wd_593 rfl (hM 114 (by decide) (by decide)) sh_114 rfl (by decide) rfl (Nat.le_of_ble_eq_true rfl) dX11_unfoldsFirst_16 ?_
    rintro _ _ ⟨rfl, rfl⟩
    show TW G X (PU B f bs.length (v + 1)) [(4, .int (nI 0)), (3, .int (nI 0)), (2, .int (nI v)), (0, .ref (tw_ad G 114)), (1, .int (nI 1))] 19 [.int (nI (bs.getD v 0))]
    refine tw_istore (L' := [(5, .int (nI (bs.getD v 0))), (4, .int (nI 0)), (3, .int (nI 0)), (2, .int (nI v)), (0, .ref (tw_ad G 114)), (1, .int (nI 1))]) C N dX11_unfoldsFirst_19 (i := 5) (by decide) rfl ?_
    refine tw_iload_n C dX11_unfoldsFirst_21 5 rfl ?_
    refine tw_iconst C dX11_unfoldsFirst_22 (v := nI 1) (by decide) ?_
    refine tn_icmp_ne C dX11_unfoldsFirst_23 (tgt := 30) (by decide) (by omega) (by omega) (fun c16 => ?_) (fun c16 => ?_)
    · exact absurd c16 (by decide)
    refine tw_iconst C dX11_unfoldsFirst_26 (v := nI 0) (by decide) ?_
    refine tw_goto C dX11_unfoldsFirst_27 (tgt := 37) (by decide) ?_
    refine tw_iload C dX11_unfoldsFirst_37 0 rfl ?_
    refine tw_bipush C dX11_unfoldsFirst_39 (v := nI 6) (by decide) ?_
    refine tw_ishr C dX11_unfoldsFirst_41 (v := nI ((bs.getD v 0) / 64)) (nI_shr (by omega) 6 (by decide)) ?_
    refine tw_ior C dX11_unfoldsFirst_42 (v := nI (0 ||| ((bs.getD v 0) / 64))) (nI_or _ _) ?_
    refine tw_istore_n (L' := [(3, .int (nI (0 ||| ((bs.getD v 0) / 64)))), (5, .int (nI (bs.getD v 0))), (4, .int (nI 0)), (2, .int (nI v)), (0, .ref (tw_ad G 114)), (1, .int (nI 1))]) C N dX11_unfoldsFirst_43 rfl (by decide) rfl ?_
    refine tw_iload_n C dX11_unfoldsFirst_44 5 rfl ?_
    refine tn_if_ne C dX11_unfoldsFirst_45 (tgt := 55) (by decide) (by omega) (fun c17 => ?_) (fun c17 => ?_)
    · skip
      refine tw_iload_n C dX11_unfoldsFirst_55 5 rfl ?_
      refine tw_iconst C dX11_unfoldsFirst_56 (v := nI 1) (by decide) ?_
      refine tn_icmp_ne C dX11_unfoldsFirst_57 (tgt := 68) (by decide) (by omega) (by omega) (fun c18 => ?_) (fun c18 => ?_)
      · exact absurd c18 (by decide)
      refine tw_iload C dX11_unfoldsFirst_60 1 rfl ?_
      refine tw_bipush C dX11_unfoldsFirst_62 (v := nI 15) (by decide) ?_
      refine tw_iand C dX11_unfoldsFirst_64 (v := nI ((bs.getD v 0) % 16)) (nI_andm 4 (by decide)) ?_
      refine tw_goto C dX11_unfoldsFirst_65 (tgt := 69) (by decide) ?_
      refine tw_istore (L' := [(6, .int (nI ((bs.getD v 0) % 16))), (3, .int (nI (0 ||| ((bs.getD v 0) / 64)))), (5, .int (nI (bs.getD v 0))), (4, .int (nI 0)), (2, .int (nI v)), (0, .ref (tw_ad G 114)), (1, .int (nI 1))]) C N dX11_unfoldsFirst_69 (i := 6) (by decide) rfl ?_
      refine tw_iload_n C dX11_unfoldsFirst_71 6 rfl ?_
      refine tw_iconst C dX11_unfoldsFirst_72 (v := nI 2) (by decide) ?_
      refine tn_icmp_ge C dX11_unfoldsFirst_73 (tgt := 83) (by decide) (by omega) (by omega) (fun c19 => ?_) (fun c19 => ?_)
      · exact absurd c19 (by decide)
      refine tw_aload_n C dX11_unfoldsFirst_76 5 rfl ?_
      refine tw_callV (As := []) (rest := []) C N (c_X11_next hM (B := B) (f := f) (bs := bs) (v := (v + 1)) hB h19 hbl) mm_X11_next wd_593 rfl (hM 114 (by decide) (by decide)) sh_114 rfl (by decide) rfl (Nat.le_of_ble_eq_true rfl) dX11_unfoldsFirst_77 ?_
      rintro _ _ ⟨rfl, rfl⟩
      show TW G X (PU B f bs.length ((v + 1) + 1)) [(6, .int (nI ((bs.getD v 0) % 16))), (3, .int (nI (0 ||| ((bs.getD v 0) / 64)))), (5, .int (nI (bs.getD v 0))), (4, .int (nI 0)), (2, .int (nI v)), (0, .ref (tw_ad G 114)), (1, .int (nI 1))] 80 [.int (nI (bs.getD (v + 1) 0))]
      refine tw_goto C dX11_unfoldsFirst_80 (tgt := 84) (by decide) ?_
      refine tw_istore (L' := [(7, .int (nI (bs.getD (v + 1) 0))), (6, .int (nI ((bs.getD v 0) % 16))), (3, .int (nI (0 ||| ((bs.getD v 0) / 64)))), (5, .int (nI (bs.getD v 0))), (4, .int (nI 0)), (2, .int (nI v)), (0, .ref (tw_ad G 114)), (1, .int (nI 1))]) C N dX11_unfoldsFirst_84 (i := 7) (by decide) rfl ?_
      refine tw_iload_n C dX11_unfoldsFirst_86 7 rfl ?_
      refine tw_iconst C dX11_unfoldsFirst_87 (v := nI 2) (by decide) ?_
      refine tn_icmp_ge C dX11_unfoldsFirst_88 (tgt := 98) (by decide) (by omega) (by omega) (fun c21 => ?_) (fun c21 => ?_)
      · exact absurd c21 (by decide)
      refine tw_aload_n C dX11_unfoldsFirst_91 6 rfl ?_
      refine tw_callV (As := []) (rest := []) C N (c_X11_next hM (B := B) (f := f) (bs := bs) (v := ((v + 1) + 1)) hB h19 hbl) mm_X11_next wd_593 rfl (hM 114 (by decide) (by decide)) sh_114 rfl (by decide) rfl (Nat.le_of_ble_eq_true rfl) dX11_unfoldsFirst_92 ?_
      rintro _ _ ⟨rfl, rfl⟩
      show TW G X (PU B f bs.length (((v + 1) + 1) + 1)) [(7, .int (nI (bs.getD (v + 1) 0))), (6, .int (nI ((bs.getD v 0) % 16))), (3, .int (nI (0 ||| ((bs.getD v 0) / 64)))), (5, .int (nI (bs.getD v 0))), (4, .int (nI 0)), (2, .int (nI v)), (0, .ref (tw_ad G 114)), (1, .int (nI 1))] 95 [.int (nI (bs.getD ((v + 1) + 1) 0))]
      refine tw_goto C dX11_unfoldsFirst_95 (tgt := 99) (by decide) ?_
      refine tw_istore (L' := [(8, .int (nI (bs.getD ((v + 1) + 1) 0))), (7, .int (nI (bs.getD (v + 1) 0))), (6, .int (nI ((bs.getD v 0) % 16))), (3, .int (nI (0 ||| ((bs.getD v 0) / 64)))), (5, .int (nI (bs.getD v 0))), (4, .int (nI 0)), (2, .int (nI v)), (0, .ref (tw_ad G 114)), (1, .int (nI 1))]) C N dX11_unfoldsFirst_99 (i := 8) (by decide) rfl ?_
      refine tw_aload_n C dX11_unfoldsFirst_101 7 rfl ?_
      refine tw_getI (v := nI (pF bs.length (((v + 1) + 1) + 1))) (k := 21) C dX11_unfoldsFirst_102 fc_X11 sh_114 (hM 114 (by decide) (by decide)) rfl (by decide) wd_584 rfl ?_
      have hpf := pF_io bs.length (((v + 1) + 1) + 1)
      refine tn_if_le C dX11_unfoldsFirst_105 (tgt := 110) (by decide) (by omega) (fun c23 => ?_) (fun c23 => ?_)
      · skip
        refine tw_iload_n C dX11_unfoldsFirst_110 8 rfl ?_
        refine tn_if_ne C dX11_unfoldsFirst_111 (tgt := 121) (by decide) (by omega) (fun c24 => ?_) (fun c24 => ?_)
        · skip
          refine tw_iload_n C dX11_unfoldsFirst_121 8 rfl ?_
          refine tw_iconst C dX11_unfoldsFirst_122 (v := nI 1) (by decide) ?_
          refine tn_icmp_ne C dX11_unfoldsFirst_123 (tgt := 141) (by decide) (by omega) (by omega) (fun c25 => ?_) (fun c25 => ?_)
          · exact absurd c25 (by decide)
          refine tw_iload C dX11_unfoldsFirst_126 4 rfl ?_
          refine tw_bipush C dX11_unfoldsFirst_128 (v := nI 48) (by decide) ?_
          refine tw_iand C dX11_unfoldsFirst_130 (v := nI ((bs.getD v 0) &&& 48)) (nI_and _ _) ?_
          refine tn_if_eq C dX11_unfoldsFirst_131 (tgt := 141) (by decide) (Nat.lt_of_le_of_lt Nat.and_le_left (Nat.lt_trans (gD_lt hbb v) (by decide))) (fun c131 => ?_) (fun c131 => ?_)
          · have hwr1 : uWr bs 1 v = 0 := (and48m _ (gD_lt hbb v)).mp (by omega)
            refine tw_iload C dX11_unfoldsFirst_141 2 rfl ?_
            refine tw_bipush C dX11_unfoldsFirst_143 (v := nI 16) (by decide) ?_
            refine tw_ishl C dX11_unfoldsFirst_145 (v := nI (((bs.getD v 0) % 16) * 65536)) (nI_shl _ 16 (by decide)) ?_
            refine tw_iload C dX11_unfoldsFirst_146 1 rfl ?_
            refine tw_bipush C dX11_unfoldsFirst_148 (v := nI 8) (by decide) ?_
            refine tw_ishl C dX11_unfoldsFirst_150 (v := nI ((bs.getD (v + 1) 0) * 256)) (nI_shl _ 8 (by decide)) ?_
            refine tw_ior C dX11_unfoldsFirst_151 (v := nI ((((bs.getD v 0) % 16) * 65536) ||| ((bs.getD (v + 1) 0) * 256))) (nI_or _ _) ?_
            refine tw_iload C dX11_unfoldsFirst_152 0 rfl ?_
            refine tw_ior C dX11_unfoldsFirst_154 (v := nI (((((bs.getD v 0) % 16) * 65536) ||| ((bs.getD (v + 1) 0) * 256)) ||| (bs.getD ((v + 1) + 1) 0))) (nI_or _ _) ?_
            refine tw_istore (L' := [(4, .int (nI (((((bs.getD v 0) % 16) * 65536) ||| ((bs.getD (v + 1) 0) * 256)) ||| (bs.getD ((v + 1) + 1) 0)))), (8, .int (nI (bs.getD ((v + 1) + 1) 0))), (7, .int (nI (bs.getD (v + 1) 0))), (6, .int (nI ((bs.getD v 0) % 16))), (3, .int (nI (0 ||| ((bs.getD v 0) / 64)))), (5, .int (nI (bs.getD v 0))), (2, .int (nI v)), (0, .ref (tw_ad G 114)), (1, .int (nI 1))]) C N dX11_unfoldsFirst_155 (i := 4) (by decide) rfl ?_
            refine TW.c (L' := [(3, .int (nI (uT bs 1 v))), (4, .int (nI (uL bs 1 v))), (0, .ref (tw_ad G 114)), (1, .int (nI 1))]) (by rw [← uT_1, ← uL_1 hbb]; simp) ?_
            exact t157 (uT_le hbb) (by rw [← uL_1 hbb, or3b (gD_lt hbb _) (gD_lt hbb _)]; omega) hwr1 (by omega)
          · have hwr : uWr bs 1 v ≠ 0 := fun h => c131 ((and48m _ (gD_lt hbb v)).mpr h)
            refine tw_aload_n C dX11_unfoldsFirst_134 7 rfl ?_
            refine tw_iconst C dX11_unfoldsFirst_135 (v := nI 5) (by decide) ?_
            refine tw_iload_n C dX11_unfoldsFirst_136 6 rfl ?_
            refine tw_callV (As := [.int (nI 5), .int (nI v)]) (rest := []) C N (c_X11_fails hM (S := PU B f bs.length (((v + 1) + 1) + 1)) (w := 5) (u := v) (by omega) (by show nI (pF bs.length (((v + 1) + 1) + 1)) = nI 0; rw [show pF bs.length (((v + 1) + 1) + 1) = 0 by omega])) mm_X11_fails wd_597 rfl (hM 114 (by decide) (by decide)) sh_114 rfl (by decide) rfl (Nat.le_of_ble_eq_true rfl) dX11_unfoldsFirst_137 ?_
            rintro _ _ ⟨rfl, rfl⟩
            show TW G X (tw_uI (tw_uI (PU B f bs.length (((v + 1) + 1) + 1)) 114 21 (nI 5)) 114 22 (nI v)) [(8, .int (nI (bs.getD ((v + 1) + 1) 0))), (7, .int (nI (bs.getD (v + 1) 0))), (6, .int (nI ((bs.getD v 0) % 16))), (3, .int (nI (0 ||| ((bs.getD v 0) / 64)))), (5, .int (nI (bs.getD v 0))), (4, .int (nI 0)), (2, .int (nI v)), (0, .ref (tw_ad G 114)), (1, .int (nI 1))] 140 [.int (nI 0)]
            exact tw_ireturn C Q dX11_unfoldsFirst_140 rfl rfl rfl (Or.inr (Or.inl ⟨by omega, hwr, rfl, rfl⟩))
        · exact absurd c24 (by decide)
      · skip
        refine tw_iconst C dX11_unfoldsFirst_108 (v := nI 0) (by decide) ?_
        exact tw_ireturn C Q dX11_unfoldsFirst_109 rfl rfl rfl (Or.inl ⟨by omega, rfl, rfl⟩)
    · exact absurd c17 (by decide)
  · have htf : tfN 2 = 1 := rfl
    refine tw_aload_n C dX11_unfoldsFirst_0 0 rfl ?_
    refine tw_getI (v := nI v) (k := 20) C dX11_unfoldsFirst_1 fc_X11 sh_114 (hM 114 (by decide) (by decide)) rfl (by decide) wd_592 (by show nI (pA bs.length v) = _; rw [pA, Nat.min_eq_left hv]) ?_
    refine tw_istore_n (L' := [(2, .int (nI v)), (0, .ref (tw_ad G 114)), (1, .int (nI 2))]) C N dX11_unfoldsFirst_4 rfl (by decide) rfl ?_
    refine tw_iconst C dX11_unfoldsFirst_5 (v := nI 0) (by decide) ?_
    refine tw_istore_n (L' := [(3, .int (nI 0)), (2, .int (nI v)), (0, .ref (tw_ad G 114)), (1, .int (nI 2))]) C N dX11_unfoldsFirst_6 rfl (by decide) rfl ?_
    refine tw_iconst C dX11_unfoldsFirst_7 (v := nI 0) (by decide) ?_
    refine tw_istore (L' := [(4, .int (nI 0)), (3, .int (nI 0)), (2, .int (nI v)), (0, .ref (tw_ad G 114)), (1, .int (nI 2))]) C N dX11_unfoldsFirst_8 (i := 4) (by decide) rfl ?_
    refine tw_iload_n C dX11_unfoldsFirst_10 4 rfl ?_
    refine tw_iconst C dX11_unfoldsFirst_11 (v := nI 3) (by decide) ?_
    refine tn_icmp_ge C dX11_unfoldsFirst_12 (tgt := 157) (by decide) (by omega) (by omega) (fun c27 => ?_) (fun c27 => ?_)
    · exact absurd c27 (by decide)
    refine tw_aload_n C dX11_unfoldsFirst_15 3 rfl ?_
    refine tw_callV (As := []) (rest := []) C N (c_X11_next hM (B := B) (f := f) (bs := bs) (v := v) hB h19 hbl) mm_X11_next wd_593 rfl (hM 114 (by decide) (by decide)) sh_114 rfl (by decide) rfl (Nat.le_of_ble_eq_true rfl) dX11_unfoldsFirst_16 ?_
    rintro _ _ ⟨rfl, rfl⟩
    show TW G X (PU B f bs.length (v + 1)) [(4, .int (nI 0)), (3, .int (nI 0)), (2, .int (nI v)), (0, .ref (tw_ad G 114)), (1, .int (nI 2))] 19 [.int (nI (bs.getD v 0))]
    refine tw_istore (L' := [(5, .int (nI (bs.getD v 0))), (4, .int (nI 0)), (3, .int (nI 0)), (2, .int (nI v)), (0, .ref (tw_ad G 114)), (1, .int (nI 2))]) C N dX11_unfoldsFirst_19 (i := 5) (by decide) rfl ?_
    refine tw_iload_n C dX11_unfoldsFirst_21 5 rfl ?_
    refine tw_iconst C dX11_unfoldsFirst_22 (v := nI 1) (by decide) ?_
    refine tn_icmp_ne C dX11_unfoldsFirst_23 (tgt := 30) (by decide) (by omega) (by omega) (fun c29 => ?_) (fun c29 => ?_)
    · skip
      refine tw_iload C dX11_unfoldsFirst_30 0 rfl ?_
      refine tw_bipush C dX11_unfoldsFirst_32 (v := nI 63) (by decide) ?_
      refine tw_iand C dX11_unfoldsFirst_34 (v := nI ((bs.getD v 0) % 64)) (nI_andm 6 (by decide)) ?_
      refine tw_iconst C dX11_unfoldsFirst_35 (v := nI 2) (by decide) ?_
      refine tw_ishl C dX11_unfoldsFirst_36 (v := nI (((bs.getD v 0) % 64) * 4)) (nI_shl _ 2 (by decide)) ?_
      refine tw_iload C dX11_unfoldsFirst_37 0 rfl ?_
      refine tw_bipush C dX11_unfoldsFirst_39 (v := nI 6) (by decide) ?_
      refine tw_ishr C dX11_unfoldsFirst_41 (v := nI ((bs.getD v 0) / 64)) (nI_shr (by omega) 6 (by decide)) ?_
      refine tw_ior C dX11_unfoldsFirst_42 (v := nI ((((bs.getD v 0) % 64) * 4) ||| ((bs.getD v 0) / 64))) (nI_or _ _) ?_
      refine tw_istore_n (L' := [(3, .int (nI ((((bs.getD v 0) % 64) * 4) ||| ((bs.getD v 0) / 64)))), (5, .int (nI (bs.getD v 0))), (4, .int (nI 0)), (2, .int (nI v)), (0, .ref (tw_ad G 114)), (1, .int (nI 2))]) C N dX11_unfoldsFirst_43 rfl (by decide) rfl ?_
      refine tw_iload_n C dX11_unfoldsFirst_44 5 rfl ?_
      refine tn_if_ne C dX11_unfoldsFirst_45 (tgt := 55) (by decide) (by omega) (fun c30 => ?_) (fun c30 => ?_)
      · skip
        refine tw_iload_n C dX11_unfoldsFirst_55 5 rfl ?_
        refine tw_iconst C dX11_unfoldsFirst_56 (v := nI 1) (by decide) ?_
        refine tn_icmp_ne C dX11_unfoldsFirst_57 (tgt := 68) (by decide) (by omega) (by omega) (fun c31 => ?_) (fun c31 => ?_)
        · skip
          refine tw_iconst C dX11_unfoldsFirst_68 (v := nI 0) (by decide) ?_
          refine tw_istore (L' := [(6, .int (nI 0)), (3, .int (nI ((((bs.getD v 0) % 64) * 4) ||| ((bs.getD v 0) / 64)))), (5, .int (nI (bs.getD v 0))), (4, .int (nI 0)), (2, .int (nI v)), (0, .ref (tw_ad G 114)), (1, .int (nI 2))]) C N dX11_unfoldsFirst_69 (i := 6) (by decide) rfl ?_
          refine tw_iload_n C dX11_unfoldsFirst_71 6 rfl ?_
          refine tw_iconst C dX11_unfoldsFirst_72 (v := nI 2) (by decide) ?_
          refine tn_icmp_ge C dX11_unfoldsFirst_73 (tgt := 83) (by decide) (by omega) (by omega) (fun c32 => ?_) (fun c32 => ?_)
          · skip
            refine tw_iconst C dX11_unfoldsFirst_83 (v := nI 0) (by decide) ?_
            refine tw_istore (L' := [(7, .int (nI 0)), (6, .int (nI 0)), (3, .int (nI ((((bs.getD v 0) % 64) * 4) ||| ((bs.getD v 0) / 64)))), (5, .int (nI (bs.getD v 0))), (4, .int (nI 0)), (2, .int (nI v)), (0, .ref (tw_ad G 114)), (1, .int (nI 2))]) C N dX11_unfoldsFirst_84 (i := 7) (by decide) rfl ?_
            refine tw_iload_n C dX11_unfoldsFirst_86 7 rfl ?_
            refine tw_iconst C dX11_unfoldsFirst_87 (v := nI 2) (by decide) ?_
            refine tn_icmp_ge C dX11_unfoldsFirst_88 (tgt := 98) (by decide) (by omega) (by omega) (fun c33 => ?_) (fun c33 => ?_)
            · skip
              refine tw_iconst C dX11_unfoldsFirst_98 (v := nI 0) (by decide) ?_
              refine tw_istore (L' := [(8, .int (nI 0)), (7, .int (nI 0)), (6, .int (nI 0)), (3, .int (nI ((((bs.getD v 0) % 64) * 4) ||| ((bs.getD v 0) / 64)))), (5, .int (nI (bs.getD v 0))), (4, .int (nI 0)), (2, .int (nI v)), (0, .ref (tw_ad G 114)), (1, .int (nI 2))]) C N dX11_unfoldsFirst_99 (i := 8) (by decide) rfl ?_
              refine tw_aload_n C dX11_unfoldsFirst_101 7 rfl ?_
              refine tw_getI (v := nI (pF bs.length (v + 1))) (k := 21) C dX11_unfoldsFirst_102 fc_X11 sh_114 (hM 114 (by decide) (by decide)) rfl (by decide) wd_584 rfl ?_
              have hpf := pF_io bs.length (v + 1)
              refine tn_if_le C dX11_unfoldsFirst_105 (tgt := 110) (by decide) (by omega) (fun c34 => ?_) (fun c34 => ?_)
              · skip
                refine tw_iload_n C dX11_unfoldsFirst_110 8 rfl ?_
                refine tn_if_ne C dX11_unfoldsFirst_111 (tgt := 121) (by decide) (by omega) (fun c35 => ?_) (fun c35 => ?_)
                · skip
                  refine tw_iload_n C dX11_unfoldsFirst_121 8 rfl ?_
                  refine tw_iconst C dX11_unfoldsFirst_122 (v := nI 1) (by decide) ?_
                  refine tn_icmp_ne C dX11_unfoldsFirst_123 (tgt := 141) (by decide) (by omega) (by omega) (fun c36 => ?_) (fun c36 => ?_)
                  · skip
                    refine tw_iload C dX11_unfoldsFirst_141 2 rfl ?_
                    refine tw_bipush C dX11_unfoldsFirst_143 (v := nI 16) (by decide) ?_
                    refine tw_ishl C dX11_unfoldsFirst_145 (v := nI (0 * 65536)) (nI_shl _ 16 (by decide)) ?_
                    refine tw_iload C dX11_unfoldsFirst_146 1 rfl ?_
                    refine tw_bipush C dX11_unfoldsFirst_148 (v := nI 8) (by decide) ?_
                    refine tw_ishl C dX11_unfoldsFirst_150 (v := nI (0 * 256)) (nI_shl _ 8 (by decide)) ?_
                    refine tw_ior C dX11_unfoldsFirst_151 (v := nI ((0 * 65536) ||| (0 * 256))) (nI_or _ _) ?_
                    refine tw_iload C dX11_unfoldsFirst_152 0 rfl ?_
                    refine tw_ior C dX11_unfoldsFirst_154 (v := nI (((0 * 65536) ||| (0 * 256)) ||| 0)) (nI_or _ _) ?_
                    refine tw_istore (L' := [(4, .int (nI (((0 * 65536) ||| (0 * 256)) ||| 0))), (8, .int (nI 0)), (7, .int (nI 0)), (6, .int (nI 0)), (3, .int (nI ((((bs.getD v 0) % 64) * 4) ||| ((bs.getD v 0) / 64)))), (5, .int (nI (bs.getD v 0))), (2, .int (nI v)), (0, .ref (tw_ad G 114)), (1, .int (nI 2))]) C N dX11_unfoldsFirst_155 (i := 4) (by decide) rfl ?_
                    refine TW.c (L' := [(3, .int (nI (uT bs 2 v))), (4, .int (nI (uL bs 2 v))), (0, .ref (tw_ad G 114)), (1, .int (nI 2))]) (by rw [← uT_2 hbb (Or.inr rfl), ← uL_2]; simp) ?_
                    exact t157 (uT_le hbb) (by rw [← uL_2 (v := v)]; decide) rfl (by omega)
                  · exact absurd c36 (by decide)
                · exact absurd c35 (by decide)
              · skip
                refine tw_iconst C dX11_unfoldsFirst_108 (v := nI 0) (by decide) ?_
                exact tw_ireturn C Q dX11_unfoldsFirst_109 rfl rfl rfl (Or.inl ⟨by omega, rfl, rfl⟩)
            · exact absurd c33 (by decide)
          · exact absurd c32 (by decide)
        · exact absurd c31 (by decide)
      · exact absurd c30 (by decide)
    · exact absurd c29 (by decide)
  · have htf : tfN 3 = 0 := rfl
    refine tw_aload_n C dX11_unfoldsFirst_0 0 rfl ?_
    refine tw_getI (v := nI v) (k := 20) C dX11_unfoldsFirst_1 fc_X11 sh_114 (hM 114 (by decide) (by decide)) rfl (by decide) wd_592 (by show nI (pA bs.length v) = _; rw [pA, Nat.min_eq_left hv]) ?_
    refine tw_istore_n (L' := [(2, .int (nI v)), (0, .ref (tw_ad G 114)), (1, .int (nI 3))]) C N dX11_unfoldsFirst_4 rfl (by decide) rfl ?_
    refine tw_iconst C dX11_unfoldsFirst_5 (v := nI 0) (by decide) ?_
    refine tw_istore_n (L' := [(3, .int (nI 0)), (2, .int (nI v)), (0, .ref (tw_ad G 114)), (1, .int (nI 3))]) C N dX11_unfoldsFirst_6 rfl (by decide) rfl ?_
    refine tw_iconst C dX11_unfoldsFirst_7 (v := nI 0) (by decide) ?_
    refine tw_istore (L' := [(4, .int (nI 0)), (3, .int (nI 0)), (2, .int (nI v)), (0, .ref (tw_ad G 114)), (1, .int (nI 3))]) C N dX11_unfoldsFirst_8 (i := 4) (by decide) rfl ?_
    refine tw_iload_n C dX11_unfoldsFirst_10 4 rfl ?_
    refine tw_iconst C dX11_unfoldsFirst_11 (v := nI 3) (by decide) ?_
    refine tn_icmp_ge C dX11_unfoldsFirst_12 (tgt := 157) (by decide) (by omega) (by omega) (fun c37 => ?_) (fun c37 => ?_)
    · skip
      refine TW.c (L' := [(3, .int (nI (uT bs 3 v))), (4, .int (nI (uL bs 3 v))), (0, .ref (tw_ad G 114)), (1, .int (nI 3))]) (by rw [← (uT_3 (bs := bs) (v := v)).1, ← (uT_3 (bs := bs) (v := v)).2]; simp) ?_
      exact t157 (uT_le hbb) (by rw [← (uT_3 (bs := bs) (v := v)).2]; omega) rfl (by omega)
    · exact absurd c37 (by decide)
