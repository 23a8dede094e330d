theorem c_X9_packet {G : tw_G} (hG : tw_cG G) {B : tw_S} {F : Nat → Int32} {pk : List Nat} : tw_M G yX9_packet cX9_packet 1 (some (.object "ShortFrames$Row")) 0 0 [.ref (tw_ad G 9)] (UF B F pk) (ri_A G) (fun v S' => v = 10 ∧ S' = UF B F pk) := by
  refine tw_M.of (L := [(0, .ref (tw_ad G 9))]) (by decide) (Nat.le_of_ble_eq_true rfl) rfl (fun X C N Q => ?_)
  have C : tw_C G X cX9_packet RX9 := C
  refine tw_aload_n C dX9_packet_0 0 rfl ?_
  refine tw_getR (q := 10) (k := 1) C dX9_packet_1 fc_X9 sh_9 (hG 9 (by decide)) rfl (by decide) wd_64 ?_
  exact tw_areturn C Q dX9_packet_4 rfl rfl ⟨rfl, rfl⟩
theorem po_1 {v : Nat} (h : v < 16777216) : (v / 256 * 65536 ||| 61440) ||| v % 256 = uPn 1 v := by
  have h1 := Nat.two_pow_add_eq_or_of_lt (i := 16) (b := 61440) (by omega) (v / 256)
  have h2 := Nat.two_pow_add_eq_or_of_lt (i := 8) (b := v % 256) (by omega) (v / 256 * 256 + 240)
  simp only [Nat.reducePow] at h1 h2
  rw [Nat.mul_comm (v / 256) 65536, ← h1, show 65536 * (v / 256) + 61440 = 256 * (v / 256 * 256 + 240) by omega, ← h2]
  simp only [uPn, if_true]
  omega
theorem po_2 {v : Nat} (h : v < 16777216) : (4026531840 ||| v / 65536 * 65536) ||| v % 65536 = uPn 2 v := by
  have h1 := Nat.two_pow_add_eq_or_of_lt (i := 24) (b := v / 65536 * 65536) (by omega) 240
  have h2 := Nat.two_pow_add_eq_or_of_lt (i := 16) (b := v % 65536) (by omega) (61440 + v / 65536)
  simp only [Nat.reducePow, Nat.reduceMul] at h1 h2
  rw [← h1, show 4026531840 + v / 65536 * 65536 = 65536 * (61440 + v / 65536) by omega, ← h2]
  simp only [uPn, Nat.reduceEqDiff, if_true, if_false]
  omega
theorem po_3a (a b : Nat) : 16 * ((61616 + a) * 4096 + 3851) + b = (61616 + a) * 65536 + 61616 + b := by
  rw [Nat.mul_add, ← Nat.mul_assoc, Nat.mul_comm 16, Nat.mul_assoc]
theorem po_3 {v : Nat} (h : v < 256) : ((61616 ||| v / 16) * 65536 ||| 61616) ||| v % 16 = uPn 3 v := by
  have h0 := Nat.two_pow_add_eq_or_of_lt (i := 4) (b := v / 16) (by omega) 3851
  have h1 := Nat.two_pow_add_eq_or_of_lt (i := 16) (b := 61616) (by omega) (61616 + v / 16)
  have h2 := Nat.two_pow_add_eq_or_of_lt (i := 4) (b := v % 16) (by omega) ((61616 + v / 16) * 4096 + 3851)
  simp only [Nat.reducePow, Nat.reduceMul] at h0 h1 h2
  rw [← h0, Nat.mul_comm (61616 + v / 16) 65536, ← h1, show 65536 * (61616 + v / 16) + 61616 = 16 * ((61616 + v / 16) * 4096 + 3851) by omega, ← h2]
  simp only [uPn, Nat.reduceEqDiff, if_true, if_false]
  exact po_3a _ _
theorem uPn_lt {p v : Nat} (h : v < 4294967296) (h1 : p = 1 ∨ p = 2 → v < 16777216) (h3 : p = 3 → v < 256) : uPn p v < 2 ^ 64 := by
  unfold uPn
  split
  · have := h1 (by omega); omega
  · split
    · have := h1 (by omega); omega
    · split
      · have := h3 (by omega); omega
      · omega
theorem c_X9_portsOf {G : tw_G} (hG : tw_cG G) {S : tw_S} {p v : Nat} (hp : p < 2 ^ 31) (hv : v < 4294967296) (h1 : p = 1 ∨ p = 2 → v < 16777216) (h3 : p = 3 → v < 256) : tw_M G yX9_portsOf cX9_portsOf 3 (some .long) 0 0 [.int (nI p), .long (lN v)] S ri_J (fun x S' => x = lN (uPn p v) ∧ S = S') := by
  refine tw_M.of (L := [(0, .int (nI p)), (1, .long (lN v))]) (by decide) (Nat.le_of_ble_eq_true rfl) rfl (fun X C N Q => ?_)
  have C : tw_C G X cX9_portsOf RX9 := C
  refine tw_iload_n C dX9_portsOf_0 0 rfl ?_
  rcases (show p = 1 ∨ p = 2 ∨ p = 3 ∨ (p ≠ 1 ∧ p ≠ 2 ∧ p ≠ 3) by omega) with q | q | q | q
  · refine tn_tabIn (tgt := 28) (off := 27) C dX9_portsOf_1 (by omega) (by omega) (by omega) (by simp [q]) (by decide) ?_
    refine tw_lload_n C dX9_portsOf_28 1 rfl ?_
    refine tw_bipush C dX9_portsOf_29 (v := nI 8) (by decide) ?_
    refine tw_lshr C dX9_portsOf_31 (v := lN (v / 256)) (lN_shr (by omega) 8 (by decide)) ?_
    refine tw_bipush C dX9_portsOf_32 (v := nI 16) (by decide) ?_
    refine tw_lshl C dX9_portsOf_34 (v := lN ((v / 256) * 65536)) (lN_shl _ 16 (by decide)) ?_
    refine tw_ldc2 C dX9_portsOf_35 wd_466 (w := lN 61440) (by decide) ?_
    refine tw_lor C dX9_portsOf_38 (v := lN (((v / 256) * 65536) ||| 61440)) (lN_or _ _) ?_
    refine tw_lload_n C dX9_portsOf_39 1 rfl ?_
    refine tw_ldc2 C dX9_portsOf_40 wd_467 (w := lN 255) (by decide) ?_
    refine tw_land C dX9_portsOf_43 (v := lN (v % 256)) (lN_andm 8) ?_
    refine tw_lor C dX9_portsOf_44 (v := lN (uPn 1 v)) (by rw [lN_or, po_1 (h1 (by omega))]) ?_
    exact tw_lreturn C Q dX9_portsOf_45 rfl rfl ⟨by rw [q], rfl⟩
  · refine tn_tabIn (tgt := 46) (off := 45) C dX9_portsOf_1 (by omega) (by omega) (by omega) (by simp [q]) (by decide) ?_
    refine tw_ldc2 C dX9_portsOf_46 wd_468 (w := lN 4026531840) (by decide) ?_
    refine tw_lload_n C dX9_portsOf_49 1 rfl ?_
    refine tw_bipush C dX9_portsOf_50 (v := nI 16) (by decide) ?_
    refine tw_lshr C dX9_portsOf_52 (v := lN (v / 65536)) (lN_shr (by omega) 16 (by decide)) ?_
    refine tw_bipush C dX9_portsOf_53 (v := nI 16) (by decide) ?_
    refine tw_lshl C dX9_portsOf_55 (v := lN ((v / 65536) * 65536)) (lN_shl _ 16 (by decide)) ?_
    refine tw_lor C dX9_portsOf_56 (v := lN (4026531840 ||| ((v / 65536) * 65536))) (lN_or _ _) ?_
    refine tw_lload_n C dX9_portsOf_57 1 rfl ?_
    refine tw_ldc2 C dX9_portsOf_58 wd_469 (w := lN 65535) (by decide) ?_
    refine tw_land C dX9_portsOf_61 (v := lN (v % 65536)) (lN_andm 16) ?_
    refine tw_lor C dX9_portsOf_62 (v := lN (uPn 2 v)) (by rw [lN_or, po_2 (h1 (by omega))]) ?_
    exact tw_lreturn C Q dX9_portsOf_63 rfl rfl ⟨by rw [q], rfl⟩
  · refine tn_tabIn (tgt := 64) (off := 63) C dX9_portsOf_1 (by omega) (by omega) (by omega) (by simp [q]) (by decide) ?_
    refine tw_ldc2 C dX9_portsOf_64 wd_470 (w := lN 61616) (by decide) ?_
    refine tw_lload_n C dX9_portsOf_67 1 rfl ?_
    refine tw_iconst C dX9_portsOf_68 (v := nI 4) (by decide) ?_
    refine tw_lshr C dX9_portsOf_69 (v := lN (v / 16)) (lN_shr (by omega) 4 (by decide)) ?_
    refine tw_lor C dX9_portsOf_70 (v := lN (61616 ||| (v / 16))) (lN_or _ _) ?_
    refine tw_bipush C dX9_portsOf_71 (v := nI 16) (by decide) ?_
    refine tw_lshl C dX9_portsOf_73 (v := lN ((61616 ||| (v / 16)) * 65536)) (lN_shl _ 16 (by decide)) ?_
    refine tw_ldc2 C dX9_portsOf_74 wd_470 (w := lN 61616) (by decide) ?_
    refine tw_lor C dX9_portsOf_77 (v := lN (((61616 ||| (v / 16)) * 65536) ||| 61616)) (lN_or _ _) ?_
    refine tw_lload_n C dX9_portsOf_78 1 rfl ?_
    refine tw_ldc2 C dX9_portsOf_79 wd_471 (w := lN 15) (by decide) ?_
    refine tw_land C dX9_portsOf_82 (v := lN (v % 16)) (lN_andm 4) ?_
    refine tw_lor C dX9_portsOf_83 (v := lN (uPn 3 v)) (by rw [lN_or, po_3 (h3 (by omega))]) ?_
    exact tw_lreturn C Q dX9_portsOf_84 rfl rfl ⟨by rw [q], rfl⟩
  · refine tn_tabOut (tgt := 85) C dX9_portsOf_1 (by omega) (by omega) (by decide) ?_
    refine tw_lload_n C dX9_portsOf_85 1 rfl ?_
    exact tw_lreturn C Q dX9_portsOf_86 rfl rfl ⟨by simp [uPn, q], rfl⟩
theorem uFt_p0 {K : kN} {bs : List Nat} {s : Nat} (h : u3 K bs s) (h2 : uA6 (bs.getD s 0) (bs.getD (s + 1) 0) s ≤ bs.length) (hp : uPo (bs.getD s 0) = false) : uFt K bs s = (0, 0) := by
  rw [uFt_r4 h h2]; simp only; rw [if_neg (by rw [hp]; decide)]
theorem uFt_p1 {K : kN} {bs : List Nat} {s : Nat} (h : u3 K bs s) (h2 : uA6 (bs.getD s 0) (bs.getD (s + 1) 0) s ≤ bs.length) (hp : uPo (bs.getD s 0) = true) (h3 : bs.length < uA6 (bs.getD s 0) (bs.getD (s + 1) 0) s + 1) : uFt K bs s = (1, bs.length) := by
  rw [uFt_r4 h h2]; simp only; rw [if_pos hp, if_pos h3]
theorem uFt_p2 {K : kN} {bs : List Nat} {s : Nat} (h : u3 K bs s) (h2 : uA6 (bs.getD s 0) (bs.getD (s + 1) 0) s ≤ bs.length) (hp : uPo (bs.getD s 0) = true) (h3 : uA6 (bs.getD s 0) (bs.getD (s + 1) 0) s + 1 ≤ bs.length) (h4 : bs.getD (uA6 (bs.getD s 0) (bs.getD (s + 1) 0) s) 0 < 240 ∨ 243 < bs.getD (uA6 (bs.getD s 0) (bs.getD (s + 1) 0) s) 0) : uFt K bs s = (6, uA6 (bs.getD s 0) (bs.getD (s + 1) 0) s) := by
  rw [uFt_r4 h h2]; simp only; rw [if_pos hp, if_neg (by omega), if_pos (show uFm bs (bs.getD s 0) (bs.getD (s + 1) 0) s < 240 ∨ 243 < uFm bs (bs.getD s 0) (bs.getD (s + 1) 0) s from h4)]
theorem uFt_p3 {K : kN} {bs : List Nat} {s : Nat} (h : u3 K bs s) (h2 : uA6 (bs.getD s 0) (bs.getD (s + 1) 0) s ≤ bs.length) (hp : uPo (bs.getD s 0) = true) (h3 : uA6 (bs.getD s 0) (bs.getD (s + 1) 0) s + 1 ≤ bs.length) (h4 : ¬ (bs.getD (uA6 (bs.getD s 0) (bs.getD (s + 1) 0) s) 0 < 240 ∨ 243 < bs.getD (uA6 (bs.getD s 0) (bs.getD (s + 1) 0) s) 0)) (h5 : bs.length < uA6 (bs.getD s 0) (bs.getD (s + 1) 0) s + 1 + pfN (bs.getD (uA6 (bs.getD s 0) (bs.getD (s + 1) 0) s) 0 - 240) + 2) : uFt K bs s = (1, bs.length) := by
  rw [uFt_r4 h h2]; simp only; rw [if_pos hp, if_neg (by omega), if_neg (show ¬ (uFm bs (bs.getD s 0) (bs.getD (s + 1) 0) s < 240 ∨ 243 < uFm bs (bs.getD s 0) (bs.getD (s + 1) 0) s) from h4), if_pos (by unfold uA7; rw [if_pos hp]; exact h5)]
theorem uFt_p4 {K : kN} {bs : List Nat} {s : Nat} (h : u3 K bs s) (h2 : uA6 (bs.getD s 0) (bs.getD (s + 1) 0) s ≤ bs.length) (hp : uPo (bs.getD s 0) = true) (h4 : ¬ (bs.getD (uA6 (bs.getD s 0) (bs.getD (s + 1) 0) s) 0 < 240 ∨ 243 < bs.getD (uA6 (bs.getD s 0) (bs.getD (s + 1) 0) s) 0)) (h5 : uA6 (bs.getD s 0) (bs.getD (s + 1) 0) s + 1 + pfN (bs.getD (uA6 (bs.getD s 0) (bs.getD (s + 1) 0) s) 0 - 240) + 2 ≤ bs.length) : uFt K bs s = (0, 0) := by
  rw [uFt_r4 h h2]; simp only; rw [if_pos hp, if_neg (by omega), if_neg (show ¬ (uFm bs (bs.getD s 0) (bs.getD (s + 1) 0) s < 240 ∨ 243 < uFm bs (bs.getD s 0) (bs.getD (s + 1) 0) s) from h4), if_neg (by unfold uA7; rw [if_pos hp]; exact Nat.not_lt.mpr h5)]
theorem uA7_p {bs : List Nat} {b0 b1 s : Nat} (hp : uPo b0 = true) : uA7 bs b0 b1 s = uA6 b0 b1 s + 1 + pfN (bs.getD (uA6 b0 b1 s) 0 - 240) + 2 := if_pos hp
theorem uA7_n {bs : List Nat} {b0 b1 s : Nat} (hp : uPo b0 = false) : uA7 bs b0 b1 s = uA6 b0 b1 s := if_neg (by rw [hp]; decide)
theorem c_X9_readsPorts {G : tw_G} (hG : tw_cG G) {B : tw_S} {F : Nat → Int32} {pk : List Nat} {q : Nat} (hq : tw_isRow q = true) (hq10 : q ≠ 10) {bs : List Nat} (hbs : tw_R B q = bs) (hby : ∀ x ∈ bs, x < 256) (hlen : bs.length ≤ 640) {K : kN} {s : Nat} {x7 : Int32} (hs : s < 2 ^ 20) (h3 : u3 K bs s) (ha6 : uA6 (bs.getD s 0) (bs.getD (s + 1) 0) s ≤ bs.length) (hpl : pk.length = 40) (hF : UK F (uA6 (bs.getD s 0) (bs.getD (s + 1) 0) s) 0 0 (nI (bs.getD s 0)) (nI (bs.getD (s + 1) 0)) x7 (-2)) : tw_M G yX9_readsPorts cX9_readsPorts 4 (some .boolean) 2 46 [.ref (tw_ad G 9), .ref (tw_ad G q)] (UF B F pk) ri_I (fun v S' => (uFt K bs s = (0, 0) ∧ uA7 bs (bs.getD s 0) (bs.getD (s + 1) 0) s ≤ bs.length ∧ v = bI true ∧ uGo B S' (uA7 bs (bs.getD s 0) (bs.getD (s + 1) 0) s) (nI (bs.getD s 0)) (nI (bs.getD (s + 1) 0)) x7 (if uPo (bs.getD s 0) then nI (uFm bs (bs.getD s 0) (bs.getD (s + 1) 0) s - 240) else -2) (if uPo (bs.getD s 0) then pk ++ (be (uPn (uFm bs (bs.getD s 0) (bs.getD (s + 1) 0) s - 240) (nb bs (uA6 (bs.getD s 0) (bs.getD (s + 1) 0) s + 1) (pfN (uFm bs (bs.getD s 0) (bs.getD (s + 1) 0) s - 240)))) 4 ++ (be 0 2 ++ be (nb bs (uA6 (bs.getD s 0) (bs.getD (s + 1) 0) s + 1 + pfN (uFm bs (bs.getD s 0) (bs.getD (s + 1) 0) s - 240)) 2) 2)) else pk)) ∨ (v = bI false ∧ uFail B S' (uFt K bs s))) := by
  refine tw_M.of (L := [(0, .ref (tw_ad G 9)), (1, .ref (tw_ad G q))]) (by decide) (Nat.le_of_ble_eq_true rfl) rfl (fun X C N Q => ?_)
  have C : tw_C G X cX9_readsPorts RX9 := C
  have hb0 := getD_in hby s
  have hb1 := getD_in hby (s + 1)
  have hbf := getD_in hby (uA6 (bs.getD s 0) (bs.getD (s + 1) 0) s)
  have hn4 := nb_lt hby (uA6 (bs.getD s 0) (bs.getD (s + 1) 0) s + 1) 4
  have hn3 := nb_lt hby (uA6 (bs.getD s 0) (bs.getD (s + 1) 0) s + 1) 3
  have hn1 := nb_lt hby (uA6 (bs.getD s 0) (bs.getD (s + 1) 0) s + 1) 1
  have hnc4 := nb_lt hby (uA6 (bs.getD s 0) (bs.getD (s + 1) 0) s + 1 + 4) 2
  have hnc3 := nb_lt hby (uA6 (bs.getD s 0) (bs.getD (s + 1) 0) s + 1 + 3) 2
  have hnc1 := nb_lt hby (uA6 (bs.getD s 0) (bs.getD (s + 1) 0) s + 1 + 1) 2
  simp only [Nat.reducePow] at hn4 hn3 hn1 hnc4 hnc3 hnc1
  refine tw_aload_n C dX9_readsPorts_0 0 rfl ?_
  refine tw_callV (As := []) (rest := []) C N (c_X9_ports hG (B := B) (F := F) (pk := pk) (b0 := (bs.getD s 0)) hF.2.2.2.1 (by assumption)) mm_X9_ports wd_427 rfl (hG 9 (by decide)) sh_9 rfl (by decide) rfl (Nat.le_of_ble_eq_true rfl) dX9_readsPorts_1 ?_
  rintro _ _ ⟨rfl, rfl⟩
  show TW G X (UF B F pk) [(0, .ref (tw_ad G 9)), (1, .ref (tw_ad G q))] 4 [.int (bI (uPo ((bs.getD s 0))))]
  refine tb_if_ne C dX9_readsPorts_4 (tgt := 9) (by decide) (fun cp => ?_) (fun cp => ?_)
  · skip
    refine tw_aload_n C dX9_readsPorts_9 0 rfl ?_
    refine tw_aload_n C dX9_readsPorts_10 1 rfl ?_
    refine tw_iconst C dX9_readsPorts_11 (v := nI 1) (by decide) ?_
    refine tw_callV (As := [.ref (tw_ad G q), .int (nI 1)]) (rest := []) C N (c_X9_has hG (B := B) (F := F) (pk := pk) hq hq10 hbs hby hlen (a := uA6 (bs.getD s 0) (bs.getD (s + 1) 0) s) (m := 1) hF.1 (by omega) (by omega)) mm_X9_has wd_376 rfl (hG 9 (by decide)) sh_9 rfl (by decide) rfl (Nat.le_of_ble_eq_true rfl) dX9_readsPorts_12 ?_
    rintro _ _ (⟨hh2, rfl, rfl⟩ | ⟨hh2, rfl, rfl⟩)
    · show TW G X (UF B F pk) [(0, .ref (tw_ad G 9)), (1, .ref (tw_ad G q))] 15 [.int (bI true)]
      refine tb_if_ne C dX9_readsPorts_15 (tgt := 20) (by decide) (fun c4 => ?_) (fun c4 => ?_)
      · skip
        refine tw_aload_n C dX9_readsPorts_20 1 rfl ?_
        refine tw_aload_n C dX9_readsPorts_21 0 rfl ?_
        refine tw_getI (v := nI (uA6 (bs.getD s 0) (bs.getD (s + 1) 0) s)) (k := 2) C dX9_readsPorts_22 fc_X9 sh_9 (hG 9 (by decide)) rfl (by decide) wd_360 hF.1 ?_
        refine tw_callV (As := [.int (nI (uA6 (bs.getD s 0) (bs.getD (s + 1) 0) s))]) (rest := []) C N (e_X7_at hG (S := UF B F pk) hq (xs := bs) (UF_R hq10 hbs) (i := uA6 (bs.getD s 0) (bs.getD (s + 1) 0) s) (by omega)) mm_X7_at wd_385 rfl (hG _ (tw_row_lt hq).2) (tw_row_sh hq) rfl (by decide) rfl (Nat.le_of_ble_eq_true rfl) dX9_readsPorts_25 ?_
        rintro _ _ ⟨rfl, rfl⟩
        show TW G X (UF B F pk) [(0, .ref (tw_ad G 9)), (1, .ref (tw_ad G q))] 28 [.int (nI (bs.getD (uA6 (bs.getD s 0) (bs.getD (s + 1) 0) s) 0))]
        refine tw_sipush C dX9_readsPorts_28 (v := nI 240) (by decide) ?_
        rcases Nat.lt_or_ge (bs.getD (uA6 (bs.getD s 0) (bs.getD (s + 1) 0) s) 0) 240 with hb | hb
        · skip
          refine tw_isub C dX9_readsPorts_31 (v := (nI (bs.getD (uA6 (bs.getD s 0) (bs.getD (s + 1) 0) s) 0)) - (nI 240)) rfl ?_
          refine tw_istore_n (L' := [(2, .int ((nI (bs.getD (uA6 (bs.getD s 0) (bs.getD (s + 1) 0) s) 0)) - (nI 240))), (0, .ref (tw_ad G 9)), (1, .ref (tw_ad G q))]) C N dX9_readsPorts_32 rfl (by decide) rfl ?_
          refine tw_iload_n C dX9_readsPorts_33 0 rfl ?_
          refine tw_if_lt C dX9_readsPorts_34 (tgt := 42) (by decide) (fun c9 => ?_) (fun c9 => ?_)
          · skip
            refine tw_aload_n C dX9_readsPorts_42 1 rfl ?_
            refine tw_bipush C dX9_readsPorts_43 (v := nI 6) (by decide) ?_
            refine tw_aload_n C dX9_readsPorts_45 1 rfl ?_
            refine tw_getI (v := nI (uA6 (bs.getD s 0) (bs.getD (s + 1) 0) s)) (k := 2) C dX9_readsPorts_46 fc_X9 sh_9 (hG 9 (by decide)) rfl (by decide) wd_360 hF.1 ?_
            refine tw_callV (As := [.int (nI 6), .int (nI (uA6 (bs.getD s 0) (bs.getD (s + 1) 0) s))]) (rest := []) C N (c_X9_fails hG (B := B) (F := F) (pk := pk) (f := 6) (p := uA6 (bs.getD s 0) (bs.getD (s + 1) 0) s)) mm_X9_fails wd_381 rfl (hG 9 (by decide)) sh_9 rfl (by decide) rfl (Nat.le_of_ble_eq_true rfl) dX9_readsPorts_49 ?_
            rintro _ _ ⟨rfl, rfl⟩
            show TW G X (UF B (upd (upd F 3 (nI 6)) 4 (nI (uA6 (bs.getD s 0) (bs.getD (s + 1) 0) s))) pk) [(2, .int ((nI (bs.getD (uA6 (bs.getD s 0) (bs.getD (s + 1) 0) s) 0)) - (nI 240))), (0, .ref (tw_ad G 9)), (1, .ref (tw_ad G q))] 52 [.int (bI false)]
            exact tw_ireturn C Q dX9_readsPorts_52 rfl (bI_nar _) rfl (Or.inr ⟨rfl, uFail_of (uFt_p2 h3 ha6 cp (by omega) (by omega)) (by decide) rfl rfl rfl⟩)
          · exact absurd (pk_sneg (by decide) hb) c9
        · skip
          refine tw_isub C dX9_readsPorts_31 (v := nI ((bs.getD (uA6 (bs.getD s 0) (bs.getD (s + 1) 0) s) 0) - 240)) (pk_sub (by omega)) ?_
          refine tw_istore_n (L' := [(2, .int (nI ((bs.getD (uA6 (bs.getD s 0) (bs.getD (s + 1) 0) s) 0) - 240))), (0, .ref (tw_ad G 9)), (1, .ref (tw_ad G q))]) C N dX9_readsPorts_32 rfl (by decide) rfl ?_
          refine tw_iload_n C dX9_readsPorts_33 0 rfl ?_
          refine tn_if_lt C dX9_readsPorts_34 (tgt := 42) (by decide) (by omega) (fun c7 => ?_) (fun c7 => ?_)
          · exact absurd c7 id
          refine tw_iload_n C dX9_readsPorts_37 0 rfl ?_
          refine tw_iconst C dX9_readsPorts_38 (v := nI 3) (by decide) ?_
          refine tn_icmp_le C dX9_readsPorts_39 (tgt := 53) (by decide) (by omega) (by omega) (fun c8 => ?_) (fun c8 => ?_)
          · skip
            refine tw_aload_n C dX9_readsPorts_53 1 rfl ?_
            refine tw_dup C dX9_readsPorts_54 rfl ?_
            refine tw_getI (v := nI (uA6 (bs.getD s 0) (bs.getD (s + 1) 0) s)) (k := 2) C dX9_readsPorts_55 fc_X9 sh_9 (hG 9 (by decide)) rfl (by decide) wd_360 hF.1 ?_
            refine tw_iconst C dX9_readsPorts_58 (v := nI 1) (by decide) ?_
            refine tw_iadd C dX9_readsPorts_59 (v := nI ((uA6 (bs.getD s 0) (bs.getD (s + 1) 0) s) + 1)) (nI_add _ _) ?_
            refine tw_putI (k := 2) C dX9_readsPorts_60 fc_X9 sh_9 (hG 9 (by decide)) rfl (by decide) rfl wd_360 rfl rfl ?_
            refine TW.sS (S' := UF B (upd F 2 (nI ((uA6 (bs.getD s 0) (bs.getD (s + 1) 0) s) + 1))) pk) (UF_uI _ _ _ _ _) ?_
            rcases (show (bs.getD (uA6 (bs.getD s 0) (bs.getD (s + 1) 0) s) 0 - 240) = 0 ∨ (bs.getD (uA6 (bs.getD s 0) (bs.getD (s + 1) 0) s) 0 - 240) = 3 ∨ ((bs.getD (uA6 (bs.getD s 0) (bs.getD (s + 1) 0) s) 0 - 240) ≠ 0 ∧ (bs.getD (uA6 (bs.getD s 0) (bs.getD (s + 1) 0) s) 0 - 240) ≠ 3) by omega) with qz | qz | qz
            · have hpf : pfN (bs.getD (uA6 (bs.getD s 0) (bs.getD (s + 1) 0) s) 0 - 240) = 4 := by rw [qz]; rfl
              refine tw_iload_n C dX9_readsPorts_63 0 rfl ?_
              refine tn_if_ne C dX9_readsPorts_64 (tgt := 71) (by decide) (by omega) (fun cz => ?_) (fun cz => ?_)
              · exact absurd qz (by omega)
              refine tw_iconst C dX9_readsPorts_67 (v := nI 4) (by decide) ?_
              refine tw_goto C dX9_readsPorts_68 (tgt := 81) (by decide) ?_
              refine tw_istore_n (L' := [(3, .int (nI 4)), (2, .int (nI ((bs.getD (uA6 (bs.getD s 0) (bs.getD (s + 1) 0) s) 0) - 240))), (0, .ref (tw_ad G 9)), (1, .ref (tw_ad G q))]) C N dX9_readsPorts_81 rfl (by decide) rfl ?_
              refine tw_aload_n C dX9_readsPorts_82 2 rfl ?_
              refine tw_aload_n C dX9_readsPorts_83 3 rfl ?_
              refine tw_iload_n C dX9_readsPorts_84 0 rfl ?_
              refine tw_iconst C dX9_readsPorts_85 (v := nI 2) (by decide) ?_
              refine tw_iadd C dX9_readsPorts_86 (v := nI (4 + 2)) (nI_add _ _) ?_
              refine tw_callV (As := [.ref (tw_ad G q), .int (nI (4 + 2))]) (rest := []) C N (c_X9_has hG (B := B) (F := upd F 2 (nI ((uA6 (bs.getD s 0) (bs.getD (s + 1) 0) s) + 1))) (pk := pk) hq hq10 hbs hby hlen (a := (uA6 (bs.getD s 0) (bs.getD (s + 1) 0) s) + 1) (m := 4 + 2) (by rfl) (by omega) (by omega)) mm_X9_has wd_376 rfl (hG 9 (by decide)) sh_9 rfl (by decide) rfl (Nat.le_of_ble_eq_true rfl) dX9_readsPorts_87 ?_
              rintro _ _ (⟨hh9, rfl, rfl⟩ | ⟨hh9, rfl, rfl⟩)
              · show TW G X (UF B (upd F 2 (nI ((uA6 (bs.getD s 0) (bs.getD (s + 1) 0) s) + 1))) pk) [(3, .int (nI 4)), (2, .int (nI ((bs.getD (uA6 (bs.getD s 0) (bs.getD (s + 1) 0) s) 0) - 240))), (0, .ref (tw_ad G 9)), (1, .ref (tw_ad G q))] 90 [.int (bI true)]
                refine tb_if_ne C dX9_readsPorts_90 (tgt := 95) (by decide) (fun c11 => ?_) (fun c11 => ?_)
                · skip
                  refine tw_aload_n C dX9_readsPorts_95 2 rfl ?_
                  refine tw_iload_n C dX9_readsPorts_96 1 rfl ?_
                  refine tw_putI (k := 8) C dX9_readsPorts_97 fc_X9 sh_9 (hG 9 (by decide)) rfl (by decide) rfl wd_364 rfl rfl ?_
                  refine TW.sS (S' := UF B (upd (upd F 2 (nI ((uA6 (bs.getD s 0) (bs.getD (s + 1) 0) s) + 1))) 8 (nI ((bs.getD (uA6 (bs.getD s 0) (bs.getD (s + 1) 0) s) 0) - 240))) pk) (UF_uI _ _ _ _ _) ?_
                  refine tw_aload_n C dX9_readsPorts_100 2 rfl ?_
                  refine tw_getR (q := 10) (k := 1) C dX9_readsPorts_101 fc_X9 sh_9 (hG 9 (by decide)) rfl (by decide) wd_64 ?_
                  refine tw_iload_n C dX9_readsPorts_104 1 rfl ?_
                  refine tw_aload_n C dX9_readsPorts_105 3 rfl ?_
                  refine tw_aload_n C dX9_readsPorts_106 2 rfl ?_
                  refine tw_getI (v := nI ((uA6 (bs.getD s 0) (bs.getD (s + 1) 0) s) + 1)) (k := 2) C dX9_readsPorts_107 fc_X9 sh_9 (hG 9 (by decide)) rfl (by decide) wd_360 rfl ?_
                  refine tw_iload_n C dX9_readsPorts_110 0 rfl ?_
                  refine tw_callV (As := [.int (nI ((uA6 (bs.getD s 0) (bs.getD (s + 1) 0) s) + 1)), .int (nI 4)]) (rest := [.int (nI ((bs.getD (uA6 (bs.getD s 0) (bs.getD (s + 1) 0) s) 0) - 240)), .ref (tw_ad G 10)]) C N (e_X7_number hG (S := UF B (upd (upd F 2 (nI ((uA6 (bs.getD s 0) (bs.getD (s + 1) 0) s) + 1))) 8 (nI ((bs.getD (uA6 (bs.getD s 0) (bs.getD (s + 1) 0) s) 0) - 240))) pk) hq (xs := bs) (UF_R hq10 hbs) (f := (uA6 (bs.getD s 0) (bs.getD (s + 1) 0) s) + 1) (i := 4) (by omega) (by omega)) mm_X7_number wd_413 rfl (hG _ (tw_row_lt hq).2) (tw_row_sh hq) rfl (by decide) rfl (Nat.le_of_ble_eq_true rfl) dX9_readsPorts_111 ?_
                  rintro _ _ ⟨rfl, rfl⟩
                  show TW G X (UF B (upd (upd F 2 (nI ((uA6 (bs.getD s 0) (bs.getD (s + 1) 0) s) + 1))) 8 (nI ((bs.getD (uA6 (bs.getD s 0) (bs.getD (s + 1) 0) s) 0) - 240))) pk) [(3, .int (nI 4)), (2, .int (nI ((bs.getD (uA6 (bs.getD s 0) (bs.getD (s + 1) 0) s) 0) - 240))), (0, .ref (tw_ad G 9)), (1, .ref (tw_ad G q))] 114 [.long (lN (nb bs ((uA6 (bs.getD s 0) (bs.getD (s + 1) 0) s) + 1) 4)), .int (nI ((bs.getD (uA6 (bs.getD s 0) (bs.getD (s + 1) 0) s) 0) - 240)), .ref (tw_ad G 10)]
                  refine tw_callS (As := [.int (nI ((bs.getD (uA6 (bs.getD s 0) (bs.getD (s + 1) 0) s) 0) - 240)), .long (lN (nb bs ((uA6 (bs.getD s 0) (bs.getD (s + 1) 0) s) + 1) 4))]) (rest := [.ref (tw_ad G 10)]) C N (c_X9_portsOf hG (S := UF B (upd (upd F 2 (nI ((uA6 (bs.getD s 0) (bs.getD (s + 1) 0) s) + 1))) 8 (nI ((bs.getD (uA6 (bs.getD s 0) (bs.getD (s + 1) 0) s) 0) - 240))) pk) (p := (bs.getD (uA6 (bs.getD s 0) (bs.getD (s + 1) 0) s) 0) - 240) (v := nb bs ((uA6 (bs.getD s 0) (bs.getD (s + 1) 0) s) + 1) 4) (by omega) (by omega) (fun h => by omega) (fun h => by omega)) mm_X9_portsOf wd_463 rfl (by decide) rfl (Nat.le_of_ble_eq_true rfl) dX9_readsPorts_114 ?_
                  rintro _ _ ⟨rfl, rfl⟩
                  show TW G X (UF B (upd (upd F 2 (nI ((uA6 (bs.getD s 0) (bs.getD (s + 1) 0) s) + 1))) 8 (nI ((bs.getD (uA6 (bs.getD s 0) (bs.getD (s + 1) 0) s) 0) - 240))) pk) [(3, .int (nI 4)), (2, .int (nI ((bs.getD (uA6 (bs.getD s 0) (bs.getD (s + 1) 0) s) 0) - 240))), (0, .ref (tw_ad G 9)), (1, .ref (tw_ad G q))] 117 [.long (lN (uPn ((bs.getD (uA6 (bs.getD s 0) (bs.getD (s + 1) 0) s) 0) - 240) (nb bs ((uA6 (bs.getD s 0) (bs.getD (s + 1) 0) s) + 1) 4))), .ref (tw_ad G 10)]
                  refine tw_iconst C dX9_readsPorts_117 (v := nI 4) (by decide) ?_
                  have hpn : ∀ w, w < 4294967296 → ((bs.getD (uA6 (bs.getD s 0) (bs.getD (s + 1) 0) s) 0 - 240) = 1 ∨ (bs.getD (uA6 (bs.getD s 0) (bs.getD (s + 1) 0) s) 0 - 240) = 2 → w < 16777216) → ((bs.getD (uA6 (bs.getD s 0) (bs.getD (s + 1) 0) s) 0 - 240) = 3 → w < 256) → uPn (bs.getD (uA6 (bs.getD s 0) (bs.getD (s + 1) 0) s) 0 - 240) w < 2 ^ 64 := fun w a b c => uPn_lt a b c
                  refine tw_callV (As := [.long (lN (uPn ((bs.getD (uA6 (bs.getD s 0) (bs.getD (s + 1) 0) s) 0) - 240) (nb bs ((uA6 (bs.getD s 0) (bs.getD (s + 1) 0) s) + 1) 4))), .int (nI 4)]) (rest := []) C N (e_X7_addNumber hG (S := UF B (upd (upd F 2 (nI ((uA6 (bs.getD s 0) (bs.getD (s + 1) 0) s) + 1))) 8 (nI ((bs.getD (uA6 (bs.getD s 0) (bs.getD (s + 1) 0) s) 0) - 240))) pk) tw_row10 (xs := pk) rfl (v := uPn ((bs.getD (uA6 (bs.getD s 0) (bs.getD (s + 1) 0) s) 0) - 240) (nb bs ((uA6 (bs.getD s 0) (bs.getD (s + 1) 0) s) + 1) 4)) (i := 4) (uPn_lt (by omega) (fun h => by omega) (fun h => by omega)) (by omega)) mm_X7_addNumber wd_472 rfl (hG 10 (by decide)) sh_10 rfl (by decide) rfl (Nat.le_of_ble_eq_true rfl) dX9_readsPorts_118 ?_
                  rintro _ _ rfl
                  show TW G X (tw_uR (UF B (upd (upd F 2 (nI ((uA6 (bs.getD s 0) (bs.getD (s + 1) 0) s) + 1))) 8 (nI ((bs.getD (uA6 (bs.getD s 0) (bs.getD (s + 1) 0) s) 0) - 240))) pk) 10 ((pk ++ be (uPn ((bs.getD (uA6 (bs.getD s 0) (bs.getD (s + 1) 0) s) 0) - 240) (nb bs ((uA6 (bs.getD s 0) (bs.getD (s + 1) 0) s) + 1) 4)) 4).take (tw_cap 10))) [(3, .int (nI 4)), (2, .int (nI ((bs.getD (uA6 (bs.getD s 0) (bs.getD (s + 1) 0) s) 0) - 240))), (0, .ref (tw_ad G 9)), (1, .ref (tw_ad G q))] 121 []
                  refine TW.sS (S' := UF B (upd (upd F 2 (nI ((uA6 (bs.getD s 0) (bs.getD (s + 1) 0) s) + 1))) 8 (nI ((bs.getD (uA6 (bs.getD s 0) (bs.getD (s + 1) 0) s) 0) - 240))) ((pk ++ be (uPn ((bs.getD (uA6 (bs.getD s 0) (bs.getD (s + 1) 0) s) 0) - 240) (nb bs ((uA6 (bs.getD s 0) (bs.getD (s + 1) 0) s) + 1) 4)) 4).take (tw_cap 10))) (UF_uR _ _ _ _) ?_
                  refine tw_aload_n C dX9_readsPorts_121 2 rfl ?_
                  refine tw_getR (q := 10) (k := 1) C dX9_readsPorts_122 fc_X9 sh_9 (hG 9 (by decide)) rfl (by decide) wd_64 ?_
                  refine tw_lconst C dX9_readsPorts_125 (v := lN 0) rfl ?_
                  refine tw_iconst C dX9_readsPorts_126 (v := nI 2) (by decide) ?_
                  refine tw_callV (As := [.long (lN 0), .int (nI 2)]) (rest := []) C N (e_X7_addNumber hG (S := UF B (upd (upd F 2 (nI ((uA6 (bs.getD s 0) (bs.getD (s + 1) 0) s) + 1))) 8 (nI ((bs.getD (uA6 (bs.getD s 0) (bs.getD (s + 1) 0) s) 0) - 240))) ((pk ++ be (uPn ((bs.getD (uA6 (bs.getD s 0) (bs.getD (s + 1) 0) s) 0) - 240) (nb bs ((uA6 (bs.getD s 0) (bs.getD (s + 1) 0) s) + 1) 4)) 4).take (tw_cap 10))) tw_row10 (xs := (pk ++ be (uPn ((bs.getD (uA6 (bs.getD s 0) (bs.getD (s + 1) 0) s) 0) - 240) (nb bs ((uA6 (bs.getD s 0) (bs.getD (s + 1) 0) s) + 1) 4)) 4).take (tw_cap 10)) rfl (v := 0) (i := 2) (by omega) (by omega)) mm_X7_addNumber wd_472 rfl (hG 10 (by decide)) sh_10 rfl (by decide) rfl (Nat.le_of_ble_eq_true rfl) dX9_readsPorts_127 ?_
                  rintro _ _ rfl
                  show TW G X (tw_uR (UF B (upd (upd F 2 (nI ((uA6 (bs.getD s 0) (bs.getD (s + 1) 0) s) + 1))) 8 (nI ((bs.getD (uA6 (bs.getD s 0) (bs.getD (s + 1) 0) s) 0) - 240))) ((pk ++ be (uPn ((bs.getD (uA6 (bs.getD s 0) (bs.getD (s + 1) 0) s) 0) - 240) (nb bs ((uA6 (bs.getD s 0) (bs.getD (s + 1) 0) s) + 1) 4)) 4).take (tw_cap 10))) 10 ((((pk ++ be (uPn ((bs.getD (uA6 (bs.getD s 0) (bs.getD (s + 1) 0) s) 0) - 240) (nb bs ((uA6 (bs.getD s 0) (bs.getD (s + 1) 0) s) + 1) 4)) 4).take (tw_cap 10)) ++ be 0 2).take (tw_cap 10))) [(3, .int (nI 4)), (2, .int (nI ((bs.getD (uA6 (bs.getD s 0) (bs.getD (s + 1) 0) s) 0) - 240))), (0, .ref (tw_ad G 9)), (1, .ref (tw_ad G q))] 130 []
                  refine TW.sS (S' := UF B (upd (upd F 2 (nI ((uA6 (bs.getD s 0) (bs.getD (s + 1) 0) s) + 1))) 8 (nI ((bs.getD (uA6 (bs.getD s 0) (bs.getD (s + 1) 0) s) 0) - 240))) ((pk ++ be (uPn ((bs.getD (uA6 (bs.getD s 0) (bs.getD (s + 1) 0) s) 0) - 240) (nb bs ((uA6 (bs.getD s 0) (bs.getD (s + 1) 0) s) + 1) 4)) 4 ++ be 0 2).take (tw_cap 10))) (by rw [UF_uR, tk_tk]) ?_
                  refine tw_aload_n C dX9_readsPorts_130 2 rfl ?_
                  refine tw_getR (q := 10) (k := 1) C dX9_readsPorts_131 fc_X9 sh_9 (hG 9 (by decide)) rfl (by decide) wd_64 ?_
                  refine tw_aload_n C dX9_readsPorts_134 3 rfl ?_
                  refine tw_aload_n C dX9_readsPorts_135 2 rfl ?_
                  refine tw_getI (v := nI ((uA6 (bs.getD s 0) (bs.getD (s + 1) 0) s) + 1)) (k := 2) C dX9_readsPorts_136 fc_X9 sh_9 (hG 9 (by decide)) rfl (by decide) wd_360 rfl ?_
                  refine tw_iload_n C dX9_readsPorts_139 0 rfl ?_
                  refine tw_iadd C dX9_readsPorts_140 (v := nI (((uA6 (bs.getD s 0) (bs.getD (s + 1) 0) s) + 1) + 4)) (nI_add _ _) ?_
                  refine tw_iconst C dX9_readsPorts_141 (v := nI 2) (by decide) ?_
                  refine tw_callV (As := [.int (nI (((uA6 (bs.getD s 0) (bs.getD (s + 1) 0) s) + 1) + 4)), .int (nI 2)]) (rest := [.ref (tw_ad G 10)]) C N (e_X7_number hG (S := UF B (upd (upd F 2 (nI ((uA6 (bs.getD s 0) (bs.getD (s + 1) 0) s) + 1))) 8 (nI ((bs.getD (uA6 (bs.getD s 0) (bs.getD (s + 1) 0) s) 0) - 240))) ((pk ++ be (uPn ((bs.getD (uA6 (bs.getD s 0) (bs.getD (s + 1) 0) s) 0) - 240) (nb bs ((uA6 (bs.getD s 0) (bs.getD (s + 1) 0) s) + 1) 4)) 4 ++ be 0 2).take (tw_cap 10))) hq (xs := bs) (UF_R hq10 hbs) (f := ((uA6 (bs.getD s 0) (bs.getD (s + 1) 0) s) + 1) + 4) (i := 2) (by omega) (by omega)) mm_X7_number wd_413 rfl (hG _ (tw_row_lt hq).2) (tw_row_sh hq) rfl (by decide) rfl (Nat.le_of_ble_eq_true rfl) dX9_readsPorts_142 ?_
                  rintro _ _ ⟨rfl, rfl⟩
                  show TW G X (UF B (upd (upd F 2 (nI ((uA6 (bs.getD s 0) (bs.getD (s + 1) 0) s) + 1))) 8 (nI ((bs.getD (uA6 (bs.getD s 0) (bs.getD (s + 1) 0) s) 0) - 240))) ((pk ++ be (uPn ((bs.getD (uA6 (bs.getD s 0) (bs.getD (s + 1) 0) s) 0) - 240) (nb bs ((uA6 (bs.getD s 0) (bs.getD (s + 1) 0) s) + 1) 4)) 4 ++ be 0 2).take (tw_cap 10))) [(3, .int (nI 4)), (2, .int (nI ((bs.getD (uA6 (bs.getD s 0) (bs.getD (s + 1) 0) s) 0) - 240))), (0, .ref (tw_ad G 9)), (1, .ref (tw_ad G q))] 145 [.long (lN (nb bs (((uA6 (bs.getD s 0) (bs.getD (s + 1) 0) s) + 1) + 4) 2)), .ref (tw_ad G 10)]
                  refine tw_iconst C dX9_readsPorts_145 (v := nI 2) (by decide) ?_
                  refine tw_callV (As := [.long (lN (nb bs (((uA6 (bs.getD s 0) (bs.getD (s + 1) 0) s) + 1) + 4) 2)), .int (nI 2)]) (rest := []) C N (e_X7_addNumber hG (S := UF B (upd (upd F 2 (nI ((uA6 (bs.getD s 0) (bs.getD (s + 1) 0) s) + 1))) 8 (nI ((bs.getD (uA6 (bs.getD s 0) (bs.getD (s + 1) 0) s) 0) - 240))) ((pk ++ be (uPn ((bs.getD (uA6 (bs.getD s 0) (bs.getD (s + 1) 0) s) 0) - 240) (nb bs ((uA6 (bs.getD s 0) (bs.getD (s + 1) 0) s) + 1) 4)) 4 ++ be 0 2).take (tw_cap 10))) tw_row10 (xs := (pk ++ be (uPn ((bs.getD (uA6 (bs.getD s 0) (bs.getD (s + 1) 0) s) 0) - 240) (nb bs ((uA6 (bs.getD s 0) (bs.getD (s + 1) 0) s) + 1) 4)) 4 ++ be 0 2).take (tw_cap 10)) rfl (v := nb bs (((uA6 (bs.getD s 0) (bs.getD (s + 1) 0) s) + 1) + 4) 2) (i := 2) (by omega) (by omega)) mm_X7_addNumber wd_472 rfl (hG 10 (by decide)) sh_10 rfl (by decide) rfl (Nat.le_of_ble_eq_true rfl) dX9_readsPorts_146 ?_
                  rintro _ _ rfl
                  show TW G X (tw_uR (UF B (upd (upd F 2 (nI ((uA6 (bs.getD s 0) (bs.getD (s + 1) 0) s) + 1))) 8 (nI ((bs.getD (uA6 (bs.getD s 0) (bs.getD (s + 1) 0) s) 0) - 240))) ((pk ++ be (uPn ((bs.getD (uA6 (bs.getD s 0) (bs.getD (s + 1) 0) s) 0) - 240) (nb bs ((uA6 (bs.getD s 0) (bs.getD (s + 1) 0) s) + 1) 4)) 4 ++ be 0 2).take (tw_cap 10))) 10 ((((pk ++ be (uPn ((bs.getD (uA6 (bs.getD s 0) (bs.getD (s + 1) 0) s) 0) - 240) (nb bs ((uA6 (bs.getD s 0) (bs.getD (s + 1) 0) s) + 1) 4)) 4 ++ be 0 2).take (tw_cap 10)) ++ be (nb bs (((uA6 (bs.getD s 0) (bs.getD (s + 1) 0) s) + 1) + 4) 2) 2).take (tw_cap 10))) [(3, .int (nI 4)), (2, .int (nI ((bs.getD (uA6 (bs.getD s 0) (bs.getD (s + 1) 0) s) 0) - 240))), (0, .ref (tw_ad G 9)), (1, .ref (tw_ad G q))] 149 []
                  refine TW.sS (S' := UF B (upd (upd F 2 (nI ((uA6 (bs.getD s 0) (bs.getD (s + 1) 0) s) + 1))) 8 (nI ((bs.getD (uA6 (bs.getD s 0) (bs.getD (s + 1) 0) s) 0) - 240))) ((pk ++ be (uPn ((bs.getD (uA6 (bs.getD s 0) (bs.getD (s + 1) 0) s) 0) - 240) (nb bs ((uA6 (bs.getD s 0) (bs.getD (s + 1) 0) s) + 1) 4)) 4 ++ be 0 2 ++ be (nb bs (((uA6 (bs.getD s 0) (bs.getD (s + 1) 0) s) + 1) + 4) 2) 2).take (tw_cap 10))) (by rw [UF_uR, tk_tk]) ?_
                  refine tw_aload_n C dX9_readsPorts_149 2 rfl ?_
                  refine tw_dup C dX9_readsPorts_150 rfl ?_
                  refine tw_getI (v := nI ((uA6 (bs.getD s 0) (bs.getD (s + 1) 0) s) + 1)) (k := 2) C dX9_readsPorts_151 fc_X9 sh_9 (hG 9 (by decide)) rfl (by decide) wd_360 rfl ?_
                  refine tw_iload_n C dX9_readsPorts_154 0 rfl ?_
                  refine tw_iconst C dX9_readsPorts_155 (v := nI 2) (by decide) ?_
                  refine tw_iadd C dX9_readsPorts_156 (v := nI (4 + 2)) (nI_add _ _) ?_
                  refine tw_iadd C dX9_readsPorts_157 (v := nI (((uA6 (bs.getD s 0) (bs.getD (s + 1) 0) s) + 1) + (4 + 2))) (nI_add _ _) ?_
                  refine tw_putI (k := 2) C dX9_readsPorts_158 fc_X9 sh_9 (hG 9 (by decide)) rfl (by decide) rfl wd_360 rfl rfl ?_
                  refine TW.sS (S' := UF B (upd (upd (upd F 2 (nI ((uA6 (bs.getD s 0) (bs.getD (s + 1) 0) s) + 1))) 8 (nI ((bs.getD (uA6 (bs.getD s 0) (bs.getD (s + 1) 0) s) 0) - 240))) 2 (nI (((uA6 (bs.getD s 0) (bs.getD (s + 1) 0) s) + 1) + (4 + 2)))) ((pk ++ be (uPn ((bs.getD (uA6 (bs.getD s 0) (bs.getD (s + 1) 0) s) 0) - 240) (nb bs ((uA6 (bs.getD s 0) (bs.getD (s + 1) 0) s) + 1) 4)) 4 ++ be 0 2 ++ be (nb bs (((uA6 (bs.getD s 0) (bs.getD (s + 1) 0) s) + 1) + 4) 2) 2).take (tw_cap 10))) (UF_uI _ _ _ _ _) ?_
                  refine tw_iconst C dX9_readsPorts_161 (v := nI 1) (by decide) ?_
                  exact tw_ireturn C Q dX9_readsPorts_162 rfl rfl rfl (Or.inl ⟨uFt_p4 h3 ha6 cp (by omega) (by rw [hpf]; omega), by rw [uA7_p cp, hpf]; omega, rfl, upd (upd (upd F 2 (nI ((uA6 (bs.getD s 0) (bs.getD (s + 1) 0) s) + 1))) 8 (nI ((bs.getD (uA6 (bs.getD s 0) (bs.getD (s + 1) 0) s) 0) - 240))) 2 (nI (((uA6 (bs.getD s 0) (bs.getD (s + 1) 0) s) + 1) + (4 + 2))), by rw [if_pos cp, List.take_of_length_le (by simp only [List.length_append, be_len]; rw [hpl]; decide), uFm, hpf]; simp only [List.append_assoc], by rw [uA7_p cp, hpf]; rfl, hF.2.1, hF.2.2.1, hF.2.2.2.1, hF.2.2.2.2.1, hF.2.2.2.2.2.1, by rw [if_pos cp]; rfl⟩)
                · exact absurd c11 (by decide)
              · show TW G X (UF B (upd (upd (upd F 2 (nI ((uA6 (bs.getD s 0) (bs.getD (s + 1) 0) s) + 1))) 3 (nI 1)) 4 (nI bs.length)) pk) [(3, .int (nI 4)), (2, .int (nI ((bs.getD (uA6 (bs.getD s 0) (bs.getD (s + 1) 0) s) 0) - 240))), (0, .ref (tw_ad G 9)), (1, .ref (tw_ad G q))] 90 [.int (bI false)]
                refine tb_if_ne C dX9_readsPorts_90 (tgt := 95) (by decide) (fun c18 => ?_) (fun c18 => ?_)
                · exact absurd c18 (by decide)
                refine tw_iconst C dX9_readsPorts_93 (v := nI 0) (by decide) ?_
                exact tw_ireturn C Q dX9_readsPorts_94 rfl rfl rfl (Or.inr ⟨rfl, uFail_of (uFt_p3 h3 ha6 cp (by omega) (by omega) (by rw [hpf]; omega)) (by decide) rfl rfl rfl⟩)
            · have hpf : pfN (bs.getD (uA6 (bs.getD s 0) (bs.getD (s + 1) 0) s) 0 - 240) = 1 := by rw [qz]; rfl
              refine tw_iload_n C dX9_readsPorts_63 0 rfl ?_
              refine tn_if_ne C dX9_readsPorts_64 (tgt := 71) (by decide) (by omega) (fun cz => ?_) (fun cz => ?_)
              · skip
                refine tw_iload_n C dX9_readsPorts_71 0 rfl ?_
                refine tw_iconst C dX9_readsPorts_72 (v := nI 3) (by decide) ?_
                refine tn_icmp_ne C dX9_readsPorts_73 (tgt := 80) (by decide) (by omega) (by omega) (fun cz => ?_) (fun cz => ?_)
                · exact absurd qz (by omega)
                refine tw_iconst C dX9_readsPorts_76 (v := nI 1) (by decide) ?_
                refine tw_goto C dX9_readsPorts_77 (tgt := 81) (by decide) ?_
                refine tw_istore_n (L' := [(3, .int (nI 1)), (2, .int (nI ((bs.getD (uA6 (bs.getD s 0) (bs.getD (s + 1) 0) s) 0) - 240))), (0, .ref (tw_ad G 9)), (1, .ref (tw_ad G q))]) C N dX9_readsPorts_81 rfl (by decide) rfl ?_
                refine tw_aload_n C dX9_readsPorts_82 2 rfl ?_
                refine tw_aload_n C dX9_readsPorts_83 3 rfl ?_
                refine tw_iload_n C dX9_readsPorts_84 0 rfl ?_
                refine tw_iconst C dX9_readsPorts_85 (v := nI 2) (by decide) ?_
                refine tw_iadd C dX9_readsPorts_86 (v := nI (1 + 2)) (nI_add _ _) ?_
                refine tw_callV (As := [.ref (tw_ad G q), .int (nI (1 + 2))]) (rest := []) C N (c_X9_has hG (B := B) (F := upd F 2 (nI ((uA6 (bs.getD s 0) (bs.getD (s + 1) 0) s) + 1))) (pk := pk) hq hq10 hbs hby hlen (a := (uA6 (bs.getD s 0) (bs.getD (s + 1) 0) s) + 1) (m := 1 + 2) (by rfl) (by omega) (by omega)) mm_X9_has wd_376 rfl (hG 9 (by decide)) sh_9 rfl (by decide) rfl (Nat.le_of_ble_eq_true rfl) dX9_readsPorts_87 ?_
                rintro _ _ (⟨hh19, rfl, rfl⟩ | ⟨hh19, rfl, rfl⟩)
                · show TW G X (UF B (upd F 2 (nI ((uA6 (bs.getD s 0) (bs.getD (s + 1) 0) s) + 1))) pk) [(3, .int (nI 1)), (2, .int (nI ((bs.getD (uA6 (bs.getD s 0) (bs.getD (s + 1) 0) s) 0) - 240))), (0, .ref (tw_ad G 9)), (1, .ref (tw_ad G q))] 90 [.int (bI true)]
                  refine tb_if_ne C dX9_readsPorts_90 (tgt := 95) (by decide) (fun c21 => ?_) (fun c21 => ?_)
                  · skip
                    refine tw_aload_n C dX9_readsPorts_95 2 rfl ?_
                    refine tw_iload_n C dX9_readsPorts_96 1 rfl ?_
                    refine tw_putI (k := 8) C dX9_readsPorts_97 fc_X9 sh_9 (hG 9 (by decide)) rfl (by decide) rfl wd_364 rfl rfl ?_
                    refine TW.sS (S' := UF B (upd (upd F 2 (nI ((uA6 (bs.getD s 0) (bs.getD (s + 1) 0) s) + 1))) 8 (nI ((bs.getD (uA6 (bs.getD s 0) (bs.getD (s + 1) 0) s) 0) - 240))) pk) (UF_uI _ _ _ _ _) ?_
                    refine tw_aload_n C dX9_readsPorts_100 2 rfl ?_
                    refine tw_getR (q := 10) (k := 1) C dX9_readsPorts_101 fc_X9 sh_9 (hG 9 (by decide)) rfl (by decide) wd_64 ?_
                    refine tw_iload_n C dX9_readsPorts_104 1 rfl ?_
                    refine tw_aload_n C dX9_readsPorts_105 3 rfl ?_
                    refine tw_aload_n C dX9_readsPorts_106 2 rfl ?_
                    refine tw_getI (v := nI ((uA6 (bs.getD s 0) (bs.getD (s + 1) 0) s) + 1)) (k := 2) C dX9_readsPorts_107 fc_X9 sh_9 (hG 9 (by decide)) rfl (by decide) wd_360 rfl ?_
                    refine tw_iload_n C dX9_readsPorts_110 0 rfl ?_
                    refine tw_callV (As := [.int (nI ((uA6 (bs.getD s 0) (bs.getD (s + 1) 0) s) + 1)), .int (nI 1)]) (rest := [.int (nI ((bs.getD (uA6 (bs.getD s 0) (bs.getD (s + 1) 0) s) 0) - 240)), .ref (tw_ad G 10)]) C N (e_X7_number hG (S := UF B (upd (upd F 2 (nI ((uA6 (bs.getD s 0) (bs.getD (s + 1) 0) s) + 1))) 8 (nI ((bs.getD (uA6 (bs.getD s 0) (bs.getD (s + 1) 0) s) 0) - 240))) pk) hq (xs := bs) (UF_R hq10 hbs) (f := (uA6 (bs.getD s 0) (bs.getD (s + 1) 0) s) + 1) (i := 1) (by omega) (by omega)) mm_X7_number wd_413 rfl (hG _ (tw_row_lt hq).2) (tw_row_sh hq) rfl (by decide) rfl (Nat.le_of_ble_eq_true rfl) dX9_readsPorts_111 ?_
                    rintro _ _ ⟨rfl, rfl⟩
                    show TW G X (UF B (upd (upd F 2 (nI ((uA6 (bs.getD s 0) (bs.getD (s + 1) 0) s) + 1))) 8 (nI ((bs.getD (uA6 (bs.getD s 0) (bs.getD (s + 1) 0) s) 0) - 240))) pk) [(3, .int (nI 1)), (2, .int (nI ((bs.getD (uA6 (bs.getD s 0) (bs.getD (s + 1) 0) s) 0) - 240))), (0, .ref (tw_ad G 9)), (1, .ref (tw_ad G q))] 114 [.long (lN (nb bs ((uA6 (bs.getD s 0) (bs.getD (s + 1) 0) s) + 1) 1)), .int (nI ((bs.getD (uA6 (bs.getD s 0) (bs.getD (s + 1) 0) s) 0) - 240)), .ref (tw_ad G 10)]
                    refine tw_callS (As := [.int (nI ((bs.getD (uA6 (bs.getD s 0) (bs.getD (s + 1) 0) s) 0) - 240)), .long (lN (nb bs ((uA6 (bs.getD s 0) (bs.getD (s + 1) 0) s) + 1) 1))]) (rest := [.ref (tw_ad G 10)]) C N (c_X9_portsOf hG (S := UF B (upd (upd F 2 (nI ((uA6 (bs.getD s 0) (bs.getD (s + 1) 0) s) + 1))) 8 (nI ((bs.getD (uA6 (bs.getD s 0) (bs.getD (s + 1) 0) s) 0) - 240))) pk) (p := (bs.getD (uA6 (bs.getD s 0) (bs.getD (s + 1) 0) s) 0) - 240) (v := nb bs ((uA6 (bs.getD s 0) (bs.getD (s + 1) 0) s) + 1) 1) (by omega) (by omega) (fun h => by omega) (fun h => by omega)) mm_X9_portsOf wd_463 rfl (by decide) rfl (Nat.le_of_ble_eq_true rfl) dX9_readsPorts_114 ?_
                    rintro _ _ ⟨rfl, rfl⟩
                    show TW G X (UF B (upd (upd F 2 (nI ((uA6 (bs.getD s 0) (bs.getD (s + 1) 0) s) + 1))) 8 (nI ((bs.getD (uA6 (bs.getD s 0) (bs.getD (s + 1) 0) s) 0) - 240))) pk) [(3, .int (nI 1)), (2, .int (nI ((bs.getD (uA6 (bs.getD s 0) (bs.getD (s + 1) 0) s) 0) - 240))), (0, .ref (tw_ad G 9)), (1, .ref (tw_ad G q))] 117 [.long (lN (uPn ((bs.getD (uA6 (bs.getD s 0) (bs.getD (s + 1) 0) s) 0) - 240) (nb bs ((uA6 (bs.getD s 0) (bs.getD (s + 1) 0) s) + 1) 1))), .ref (tw_ad G 10)]
                    refine tw_iconst C dX9_readsPorts_117 (v := nI 4) (by decide) ?_
                    have hpn : ∀ w, w < 4294967296 → ((bs.getD (uA6 (bs.getD s 0) (bs.getD (s + 1) 0) s) 0 - 240) = 1 ∨ (bs.getD (uA6 (bs.getD s 0) (bs.getD (s + 1) 0) s) 0 - 240) = 2 → w < 16777216) → ((bs.getD (uA6 (bs.getD s 0) (bs.getD (s + 1) 0) s) 0 - 240) = 3 → w < 256) → uPn (bs.getD (uA6 (bs.getD s 0) (bs.getD (s + 1) 0) s) 0 - 240) w < 2 ^ 64 := fun w a b c => uPn_lt a b c
                    refine tw_callV (As := [.long (lN (uPn ((bs.getD (uA6 (bs.getD s 0) (bs.getD (s + 1) 0) s) 0) - 240) (nb bs ((uA6 (bs.getD s 0) (bs.getD (s + 1) 0) s) + 1) 1))), .int (nI 4)]) (rest := []) C N (e_X7_addNumber hG (S := UF B (upd (upd F 2 (nI ((uA6 (bs.getD s 0) (bs.getD (s + 1) 0) s) + 1))) 8 (nI ((bs.getD (uA6 (bs.getD s 0) (bs.getD (s + 1) 0) s) 0) - 240))) pk) tw_row10 (xs := pk) rfl (v := uPn ((bs.getD (uA6 (bs.getD s 0) (bs.getD (s + 1) 0) s) 0) - 240) (nb bs ((uA6 (bs.getD s 0) (bs.getD (s + 1) 0) s) + 1) 1)) (i := 4) (uPn_lt (by omega) (fun h => by omega) (fun h => by omega)) (by omega)) mm_X7_addNumber wd_472 rfl (hG 10 (by decide)) sh_10 rfl (by decide) rfl (Nat.le_of_ble_eq_true rfl) dX9_readsPorts_118 ?_
                    rintro _ _ rfl
                    show TW G X (tw_uR (UF B (upd (upd F 2 (nI ((uA6 (bs.getD s 0) (bs.getD (s + 1) 0) s) + 1))) 8 (nI ((bs.getD (uA6 (bs.getD s 0) (bs.getD (s + 1) 0) s) 0) - 240))) pk) 10 ((pk ++ be (uPn ((bs.getD (uA6 (bs.getD s 0) (bs.getD (s + 1) 0) s) 0) - 240) (nb bs ((uA6 (bs.getD s 0) (bs.getD (s + 1) 0) s) + 1) 1)) 4).take (tw_cap 10))) [(3, .int (nI 1)), (2, .int (nI ((bs.getD (uA6 (bs.getD s 0) (bs.getD (s + 1) 0) s) 0) - 240))), (0, .ref (tw_ad G 9)), (1, .ref (tw_ad G q))] 121 []
                    refine TW.sS (S' := UF B (upd (upd F 2 (nI ((uA6 (bs.getD s 0) (bs.getD (s + 1) 0) s) + 1))) 8 (nI ((bs.getD (uA6 (bs.getD s 0) (bs.getD (s + 1) 0) s) 0) - 240))) ((pk ++ be (uPn ((bs.getD (uA6 (bs.getD s 0) (bs.getD (s + 1) 0) s) 0) - 240) (nb bs ((uA6 (bs.getD s 0) (bs.getD (s + 1) 0) s) + 1) 1)) 4).take (tw_cap 10))) (UF_uR _ _ _ _) ?_
                    refine tw_aload_n C dX9_readsPorts_121 2 rfl ?_
                    refine tw_getR (q := 10) (k := 1) C dX9_readsPorts_122 fc_X9 sh_9 (hG 9 (by decide)) rfl (by decide) wd_64 ?_
                    refine tw_lconst C dX9_readsPorts_125 (v := lN 0) rfl ?_
                    refine tw_iconst C dX9_readsPorts_126 (v := nI 2) (by decide) ?_
                    refine tw_callV (As := [.long (lN 0), .int (nI 2)]) (rest := []) C N (e_X7_addNumber hG (S := UF B (upd (upd F 2 (nI ((uA6 (bs.getD s 0) (bs.getD (s + 1) 0) s) + 1))) 8 (nI ((bs.getD (uA6 (bs.getD s 0) (bs.getD (s + 1) 0) s) 0) - 240))) ((pk ++ be (uPn ((bs.getD (uA6 (bs.getD s 0) (bs.getD (s + 1) 0) s) 0) - 240) (nb bs ((uA6 (bs.getD s 0) (bs.getD (s + 1) 0) s) + 1) 1)) 4).take (tw_cap 10))) tw_row10 (xs := (pk ++ be (uPn ((bs.getD (uA6 (bs.getD s 0) (bs.getD (s + 1) 0) s) 0) - 240) (nb bs ((uA6 (bs.getD s 0) (bs.getD (s + 1) 0) s) + 1) 1)) 4).take (tw_cap 10)) rfl (v := 0) (i := 2) (by omega) (by omega)) mm_X7_addNumber wd_472 rfl (hG 10 (by decide)) sh_10 rfl (by decide) rfl (Nat.le_of_ble_eq_true rfl) dX9_readsPorts_127 ?_
                    rintro _ _ rfl
                    show TW G X (tw_uR (UF B (upd (upd F 2 (nI ((uA6 (bs.getD s 0) (bs.getD (s + 1) 0) s) + 1))) 8 (nI ((bs.getD (uA6 (bs.getD s 0) (bs.getD (s + 1) 0) s) 0) - 240))) ((pk ++ be (uPn ((bs.getD (uA6 (bs.getD s 0) (bs.getD (s + 1) 0) s) 0) - 240) (nb bs ((uA6 (bs.getD s 0) (bs.getD (s + 1) 0) s) + 1) 1)) 4).take (tw_cap 10))) 10 ((((pk ++ be (uPn ((bs.getD (uA6 (bs.getD s 0) (bs.getD (s + 1) 0) s) 0) - 240) (nb bs ((uA6 (bs.getD s 0) (bs.getD (s + 1) 0) s) + 1) 1)) 4).take (tw_cap 10)) ++ be 0 2).take (tw_cap 10))) [(3, .int (nI 1)), (2, .int (nI ((bs.getD (uA6 (bs.getD s 0) (bs.getD (s + 1) 0) s) 0) - 240))), (0, .ref (tw_ad G 9)), (1, .ref (tw_ad G q))] 130 []
                    refine TW.sS (S' := UF B (upd (upd F 2 (nI ((uA6 (bs.getD s 0) (bs.getD (s + 1) 0) s) + 1))) 8 (nI ((bs.getD (uA6 (bs.getD s 0) (bs.getD (s + 1) 0) s) 0) - 240))) ((pk ++ be (uPn ((bs.getD (uA6 (bs.getD s 0) (bs.getD (s + 1) 0) s) 0) - 240) (nb bs ((uA6 (bs.getD s 0) (bs.getD (s + 1) 0) s) + 1) 1)) 4 ++ be 0 2).take (tw_cap 10))) (by rw [UF_uR, tk_tk]) ?_
                    refine tw_aload_n C dX9_readsPorts_130 2 rfl ?_
                    refine tw_getR (q := 10) (k := 1) C dX9_readsPorts_131 fc_X9 sh_9 (hG 9 (by decide)) rfl (by decide) wd_64 ?_
                    refine tw_aload_n C dX9_readsPorts_134 3 rfl ?_
                    refine tw_aload_n C dX9_readsPorts_135 2 rfl ?_
                    refine tw_getI (v := nI ((uA6 (bs.getD s 0) (bs.getD (s + 1) 0) s) + 1)) (k := 2) C dX9_readsPorts_136 fc_X9 sh_9 (hG 9 (by decide)) rfl (by decide) wd_360 rfl ?_
                    refine tw_iload_n C dX9_readsPorts_139 0 rfl ?_
                    refine tw_iadd C dX9_readsPorts_140 (v := nI (((uA6 (bs.getD s 0) (bs.getD (s + 1) 0) s) + 1) + 1)) (nI_add _ _) ?_
                    refine tw_iconst C dX9_readsPorts_141 (v := nI 2) (by decide) ?_
                    refine tw_callV (As := [.int (nI (((uA6 (bs.getD s 0) (bs.getD (s + 1) 0) s) + 1) + 1)), .int (nI 2)]) (rest := [.ref (tw_ad G 10)]) C N (e_X7_number hG (S := UF B (upd (upd F 2 (nI ((uA6 (bs.getD s 0) (bs.getD (s + 1) 0) s) + 1))) 8 (nI ((bs.getD (uA6 (bs.getD s 0) (bs.getD (s + 1) 0) s) 0) - 240))) ((pk ++ be (uPn ((bs.getD (uA6 (bs.getD s 0) (bs.getD (s + 1) 0) s) 0) - 240) (nb bs ((uA6 (bs.getD s 0) (bs.getD (s + 1) 0) s) + 1) 1)) 4 ++ be 0 2).take (tw_cap 10))) hq (xs := bs) (UF_R hq10 hbs) (f := ((uA6 (bs.getD s 0) (bs.getD (s + 1) 0) s) + 1) + 1) (i := 2) (by omega) (by omega)) mm_X7_number wd_413 rfl (hG _ (tw_row_lt hq).2) (tw_row_sh hq) rfl (by decide) rfl (Nat.le_of_ble_eq_true rfl) dX9_readsPorts_142 ?_
                    rintro _ _ ⟨rfl, rfl⟩
                    show TW G X (UF B (upd (upd F 2 (nI ((uA6 (bs.getD s 0) (bs.getD (s + 1) 0) s) + 1))) 8 (nI ((bs.getD (uA6 (bs.getD s 0) (bs.getD (s + 1) 0) s) 0) - 240))) ((pk ++ be (uPn ((bs.getD (uA6 (bs.getD s 0) (bs.getD (s + 1) 0) s) 0) - 240) (nb bs ((uA6 (bs.getD s 0) (bs.getD (s + 1) 0) s) + 1) 1)) 4 ++ be 0 2).take (tw_cap 10))) [(3, .int (nI 1)), (2, .int (nI ((bs.getD (uA6 (bs.getD s 0) (bs.getD (s + 1) 0) s) 0) - 240))), (0, .ref (tw_ad G 9)), (1, .ref (tw_ad G q))] 145 [.long (lN (nb bs (((uA6 (bs.getD s 0) (bs.getD (s + 1) 0) s) + 1) + 1) 2)), .ref (tw_ad G 10)]
                    refine tw_iconst C dX9_readsPorts_145 (v := nI 2) (by decide) ?_
                    refine tw_callV (As := [.long (lN (nb bs (((uA6 (bs.getD s 0) (bs.getD (s + 1) 0) s) + 1) + 1) 2)), .int (nI 2)]) (rest := []) C N (e_X7_addNumber hG (S := UF B (upd (upd F 2 (nI ((uA6 (bs.getD s 0) (bs.getD (s + 1) 0) s) + 1))) 8 (nI ((bs.getD (uA6 (bs.getD s 0) (bs.getD (s + 1) 0) s) 0) - 240))) ((pk ++ be (uPn ((bs.getD (uA6 (bs.getD s 0) (bs.getD (s + 1) 0) s) 0) - 240) (nb bs ((uA6 (bs.getD s 0) (bs.getD (s + 1) 0) s) + 1) 1)) 4 ++ be 0 2).take (tw_cap 10))) tw_row10 (xs := (pk ++ be (uPn ((bs.getD (uA6 (bs.getD s 0) (bs.getD (s + 1) 0) s) 0) - 240) (nb bs ((uA6 (bs.getD s 0) (bs.getD (s + 1) 0) s) + 1) 1)) 4 ++ be 0 2).take (tw_cap 10)) rfl (v := nb bs (((uA6 (bs.getD s 0) (bs.getD (s + 1) 0) s) + 1) + 1) 2) (i := 2) (by omega) (by omega)) mm_X7_addNumber wd_472 rfl (hG 10 (by decide)) sh_10 rfl (by decide) rfl (Nat.le_of_ble_eq_true rfl) dX9_readsPorts_146 ?_
                    rintro _ _ rfl
                    show TW G X (tw_uR (UF B (upd (upd F 2 (nI ((uA6 (bs.getD s 0) (bs.getD (s + 1) 0) s) + 1))) 8 (nI ((bs.getD (uA6 (bs.getD s 0) (bs.getD (s + 1) 0) s) 0) - 240))) ((pk ++ be (uPn ((bs.getD (uA6 (bs.getD s 0) (bs.getD (s + 1) 0) s) 0) - 240) (nb bs ((uA6 (bs.getD s 0) (bs.getD (s + 1) 0) s) + 1) 1)) 4 ++ be 0 2).take (tw_cap 10))) 10 ((((pk ++ be (uPn ((bs.getD (uA6 (bs.getD s 0) (bs.getD (s + 1) 0) s) 0) - 240) (nb bs ((uA6 (bs.getD s 0) (bs.getD (s + 1) 0) s) + 1) 1)) 4 ++ be 0 2).take (tw_cap 10)) ++ be (nb bs (((uA6 (bs.getD s 0) (bs.getD (s + 1) 0) s) + 1) + 1) 2) 2).take (tw_cap 10))) [(3, .int (nI 1)), (2, .int (nI ((bs.getD (uA6 (bs.getD s 0) (bs.getD (s + 1) 0) s) 0) - 240))), (0, .ref (tw_ad G 9)), (1, .ref (tw_ad G q))] 149 []
                    refine TW.sS (S' := UF B (upd (upd F 2 (nI ((uA6 (bs.getD s 0) (bs.getD (s + 1) 0) s) + 1))) 8 (nI ((bs.getD (uA6 (bs.getD s 0) (bs.getD (s + 1) 0) s) 0) - 240))) ((pk ++ be (uPn ((bs.getD (uA6 (bs.getD s 0) (bs.getD (s + 1) 0) s) 0) - 240) (nb bs ((uA6 (bs.getD s 0) (bs.getD (s + 1) 0) s) + 1) 1)) 4 ++ be 0 2 ++ be (nb bs (((uA6 (bs.getD s 0) (bs.getD (s + 1) 0) s) + 1) + 1) 2) 2).take (tw_cap 10))) (by rw [UF_uR, tk_tk]) ?_
                    refine tw_aload_n C dX9_readsPorts_149 2 rfl ?_
                    refine tw_dup C dX9_readsPorts_150 rfl ?_
                    refine tw_getI (v := nI ((uA6 (bs.getD s 0) (bs.getD (s + 1) 0) s) + 1)) (k := 2) C dX9_readsPorts_151 fc_X9 sh_9 (hG 9 (by decide)) rfl (by decide) wd_360 rfl ?_
                    refine tw_iload_n C dX9_readsPorts_154 0 rfl ?_
                    refine tw_iconst C dX9_readsPorts_155 (v := nI 2) (by decide) ?_
                    refine tw_iadd C dX9_readsPorts_156 (v := nI (1 + 2)) (nI_add _ _) ?_
                    refine tw_iadd C dX9_readsPorts_157 (v := nI (((uA6 (bs.getD s 0) (bs.getD (s + 1) 0) s) + 1) + (1 + 2))) (nI_add _ _) ?_
                    refine tw_putI (k := 2) C dX9_readsPorts_158 fc_X9 sh_9 (hG 9 (by decide)) rfl (by decide) rfl wd_360 rfl rfl ?_
                    refine TW.sS (S' := UF B (upd (upd (upd F 2 (nI ((uA6 (bs.getD s 0) (bs.getD (s + 1) 0) s) + 1))) 8 (nI ((bs.getD (uA6 (bs.getD s 0) (bs.getD (s + 1) 0) s) 0) - 240))) 2 (nI (((uA6 (bs.getD s 0) (bs.getD (s + 1) 0) s) + 1) + (1 + 2)))) ((pk ++ be (uPn ((bs.getD (uA6 (bs.getD s 0) (bs.getD (s + 1) 0) s) 0) - 240) (nb bs ((uA6 (bs.getD s 0) (bs.getD (s + 1) 0) s) + 1) 1)) 4 ++ be 0 2 ++ be (nb bs (((uA6 (bs.getD s 0) (bs.getD (s + 1) 0) s) + 1) + 1) 2) 2).take (tw_cap 10))) (UF_uI _ _ _ _ _) ?_
                    refine tw_iconst C dX9_readsPorts_161 (v := nI 1) (by decide) ?_
                    exact tw_ireturn C Q dX9_readsPorts_162 rfl rfl rfl (Or.inl ⟨uFt_p4 h3 ha6 cp (by omega) (by rw [hpf]; omega), by rw [uA7_p cp, hpf]; omega, rfl, upd (upd (upd F 2 (nI ((uA6 (bs.getD s 0) (bs.getD (s + 1) 0) s) + 1))) 8 (nI ((bs.getD (uA6 (bs.getD s 0) (bs.getD (s + 1) 0) s) 0) - 240))) 2 (nI (((uA6 (bs.getD s 0) (bs.getD (s + 1) 0) s) + 1) + (1 + 2))), by rw [if_pos cp, List.take_of_length_le (by simp only [List.length_append, be_len]; rw [hpl]; decide), uFm, hpf]; simp only [List.append_assoc], by rw [uA7_p cp, hpf]; rfl, hF.2.1, hF.2.2.1, hF.2.2.2.1, hF.2.2.2.2.1, hF.2.2.2.2.2.1, by rw [if_pos cp]; rfl⟩)
                  · exact absurd c21 (by decide)
                · show TW G X (UF B (upd (upd (upd F 2 (nI ((uA6 (bs.getD s 0) (bs.getD (s + 1) 0) s) + 1))) 3 (nI 1)) 4 (nI bs.length)) pk) [(3, .int (nI 1)), (2, .int (nI ((bs.getD (uA6 (bs.getD s 0) (bs.getD (s + 1) 0) s) 0) - 240))), (0, .ref (tw_ad G 9)), (1, .ref (tw_ad G q))] 90 [.int (bI false)]
                  refine tb_if_ne C dX9_readsPorts_90 (tgt := 95) (by decide) (fun c28 => ?_) (fun c28 => ?_)
                  · exact absurd c28 (by decide)
                  refine tw_iconst C dX9_readsPorts_93 (v := nI 0) (by decide) ?_
                  exact tw_ireturn C Q dX9_readsPorts_94 rfl rfl rfl (Or.inr ⟨rfl, uFail_of (uFt_p3 h3 ha6 cp (by omega) (by omega) (by rw [hpf]; omega)) (by decide) rfl rfl rfl⟩)
              · exact absurd qz (by omega)
            · have hpf : pfN (bs.getD (uA6 (bs.getD s 0) (bs.getD (s + 1) 0) s) 0 - 240) = 3 := by unfold pfN; rw [if_neg (by omega), if_neg (by omega)]
              refine tw_iload_n C dX9_readsPorts_63 0 rfl ?_
              refine tn_if_ne C dX9_readsPorts_64 (tgt := 71) (by decide) (by omega) (fun cz => ?_) (fun cz => ?_)
              · skip
                refine tw_iload_n C dX9_readsPorts_71 0 rfl ?_
                refine tw_iconst C dX9_readsPorts_72 (v := nI 3) (by decide) ?_
                refine tn_icmp_ne C dX9_readsPorts_73 (tgt := 80) (by decide) (by omega) (by omega) (fun cz => ?_) (fun cz => ?_)
                · skip
                  refine tw_iconst C dX9_readsPorts_80 (v := nI 3) (by decide) ?_
                  refine tw_istore_n (L' := [(3, .int (nI 3)), (2, .int (nI ((bs.getD (uA6 (bs.getD s 0) (bs.getD (s + 1) 0) s) 0) - 240))), (0, .ref (tw_ad G 9)), (1, .ref (tw_ad G q))]) C N dX9_readsPorts_81 rfl (by decide) rfl ?_
                  refine tw_aload_n C dX9_readsPorts_82 2 rfl ?_
                  refine tw_aload_n C dX9_readsPorts_83 3 rfl ?_
                  refine tw_iload_n C dX9_readsPorts_84 0 rfl ?_
                  refine tw_iconst C dX9_readsPorts_85 (v := nI 2) (by decide) ?_
                  refine tw_iadd C dX9_readsPorts_86 (v := nI (3 + 2)) (nI_add _ _) ?_
                  refine tw_callV (As := [.ref (tw_ad G q), .int (nI (3 + 2))]) (rest := []) C N (c_X9_has hG (B := B) (F := upd F 2 (nI ((uA6 (bs.getD s 0) (bs.getD (s + 1) 0) s) + 1))) (pk := pk) hq hq10 hbs hby hlen (a := (uA6 (bs.getD s 0) (bs.getD (s + 1) 0) s) + 1) (m := 3 + 2) (by rfl) (by omega) (by omega)) mm_X9_has wd_376 rfl (hG 9 (by decide)) sh_9 rfl (by decide) rfl (Nat.le_of_ble_eq_true rfl) dX9_readsPorts_87 ?_
                  rintro _ _ (⟨hh29, rfl, rfl⟩ | ⟨hh29, rfl, rfl⟩)
                  · show TW G X (UF B (upd F 2 (nI ((uA6 (bs.getD s 0) (bs.getD (s + 1) 0) s) + 1))) pk) [(3, .int (nI 3)), (2, .int (nI ((bs.getD (uA6 (bs.getD s 0) (bs.getD (s + 1) 0) s) 0) - 240))), (0, .ref (tw_ad G 9)), (1, .ref (tw_ad G q))] 90 [.int (bI true)]
                    refine tb_if_ne C dX9_readsPorts_90 (tgt := 95) (by decide) (fun c31 => ?_) (fun c31 => ?_)
                    · skip
                      refine tw_aload_n C dX9_readsPorts_95 2 rfl ?_
                      refine tw_iload_n C dX9_readsPorts_96 1 rfl ?_
                      refine tw_putI (k := 8) C dX9_readsPorts_97 fc_X9 sh_9 (hG 9 (by decide)) rfl (by decide) rfl wd_364 rfl rfl ?_
                      refine TW.sS (S' := UF B (upd (upd F 2 (nI ((uA6 (bs.getD s 0) (bs.getD (s + 1) 0) s) + 1))) 8 (nI ((bs.getD (uA6 (bs.getD s 0) (bs.getD (s + 1) 0) s) 0) - 240))) pk) (UF_uI _ _ _ _ _) ?_
                      refine tw_aload_n C dX9_readsPorts_100 2 rfl ?_
                      refine tw_getR (q := 10) (k := 1) C dX9_readsPorts_101 fc_X9 sh_9 (hG 9 (by decide)) rfl (by decide) wd_64 ?_
                      refine tw_iload_n C dX9_readsPorts_104 1 rfl ?_
                      refine tw_aload_n C dX9_readsPorts_105 3 rfl ?_
                      refine tw_aload_n C dX9_readsPorts_106 2 rfl ?_
                      refine tw_getI (v := nI ((uA6 (bs.getD s 0) (bs.getD (s + 1) 0) s) + 1)) (k := 2) C dX9_readsPorts_107 fc_X9 sh_9 (hG 9 (by decide)) rfl (by decide) wd_360 rfl ?_
                      refine tw_iload_n C dX9_readsPorts_110 0 rfl ?_
                      refine tw_callV (As := [.int (nI ((uA6 (bs.getD s 0) (bs.getD (s + 1) 0) s) + 1)), .int (nI 3)]) (rest := [.int (nI ((bs.getD (uA6 (bs.getD s 0) (bs.getD (s + 1) 0) s) 0) - 240)), .ref (tw_ad G 10)]) C N (e_X7_number hG (S := UF B (upd (upd F 2 (nI ((uA6 (bs.getD s 0) (bs.getD (s + 1) 0) s) + 1))) 8 (nI ((bs.getD (uA6 (bs.getD s 0) (bs.getD (s + 1) 0) s) 0) - 240))) pk) hq (xs := bs) (UF_R hq10 hbs) (f := (uA6 (bs.getD s 0) (bs.getD (s + 1) 0) s) + 1) (i := 3) (by omega) (by omega)) mm_X7_number wd_413 rfl (hG _ (tw_row_lt hq).2) (tw_row_sh hq) rfl (by decide) rfl (Nat.le_of_ble_eq_true rfl) dX9_readsPorts_111 ?_
                      rintro _ _ ⟨rfl, rfl⟩
                      show TW G X (UF B (upd (upd F 2 (nI ((uA6 (bs.getD s 0) (bs.getD (s + 1) 0) s) + 1))) 8 (nI ((bs.getD (uA6 (bs.getD s 0) (bs.getD (s + 1) 0) s) 0) - 240))) pk) [(3, .int (nI 3)), (2, .int (nI ((bs.getD (uA6 (bs.getD s 0) (bs.getD (s + 1) 0) s) 0) - 240))), (0, .ref (tw_ad G 9)), (1, .ref (tw_ad G q))] 114 [.long (lN (nb bs ((uA6 (bs.getD s 0) (bs.getD (s + 1) 0) s) + 1) 3)), .int (nI ((bs.getD (uA6 (bs.getD s 0) (bs.getD (s + 1) 0) s) 0) - 240)), .ref (tw_ad G 10)]
                      refine tw_callS (As := [.int (nI ((bs.getD (uA6 (bs.getD s 0) (bs.getD (s + 1) 0) s) 0) - 240)), .long (lN (nb bs ((uA6 (bs.getD s 0) (bs.getD (s + 1) 0) s) + 1) 3))]) (rest := [.ref (tw_ad G 10)]) C N (c_X9_portsOf hG (S := UF B (upd (upd F 2 (nI ((uA6 (bs.getD s 0) (bs.getD (s + 1) 0) s) + 1))) 8 (nI ((bs.getD (uA6 (bs.getD s 0) (bs.getD (s + 1) 0) s) 0) - 240))) pk) (p := (bs.getD (uA6 (bs.getD s 0) (bs.getD (s + 1) 0) s) 0) - 240) (v := nb bs ((uA6 (bs.getD s 0) (bs.getD (s + 1) 0) s) + 1) 3) (by omega) (by omega) (fun h => by omega) (fun h => by omega)) mm_X9_portsOf wd_463 rfl (by decide) rfl (Nat.le_of_ble_eq_true rfl) dX9_readsPorts_114 ?_
                      rintro _ _ ⟨rfl, rfl⟩
                      show TW G X (UF B (upd (upd F 2 (nI ((uA6 (bs.getD s 0) (bs.getD (s + 1) 0) s) + 1))) 8 (nI ((bs.getD (uA6 (bs.getD s 0) (bs.getD (s + 1) 0) s) 0) - 240))) pk) [(3, .int (nI 3)), (2, .int (nI ((bs.getD (uA6 (bs.getD s 0) (bs.getD (s + 1) 0) s) 0) - 240))), (0, .ref (tw_ad G 9)), (1, .ref (tw_ad G q))] 117 [.long (lN (uPn ((bs.getD (uA6 (bs.getD s 0) (bs.getD (s + 1) 0) s) 0) - 240) (nb bs ((uA6 (bs.getD s 0) (bs.getD (s + 1) 0) s) + 1) 3))), .ref (tw_ad G 10)]
                      refine tw_iconst C dX9_readsPorts_117 (v := nI 4) (by decide) ?_
                      have hpn : ∀ w, w < 4294967296 → ((bs.getD (uA6 (bs.getD s 0) (bs.getD (s + 1) 0) s) 0 - 240) = 1 ∨ (bs.getD (uA6 (bs.getD s 0) (bs.getD (s + 1) 0) s) 0 - 240) = 2 → w < 16777216) → ((bs.getD (uA6 (bs.getD s 0) (bs.getD (s + 1) 0) s) 0 - 240) = 3 → w < 256) → uPn (bs.getD (uA6 (bs.getD s 0) (bs.getD (s + 1) 0) s) 0 - 240) w < 2 ^ 64 := fun w a b c => uPn_lt a b c
                      refine tw_callV (As := [.long (lN (uPn ((bs.getD (uA6 (bs.getD s 0) (bs.getD (s + 1) 0) s) 0) - 240) (nb bs ((uA6 (bs.getD s 0) (bs.getD (s + 1) 0) s) + 1) 3))), .int (nI 4)]) (rest := []) C N (e_X7_addNumber hG (S := UF B (upd (upd F 2 (nI ((uA6 (bs.getD s 0) (bs.getD (s + 1) 0) s) + 1))) 8 (nI ((bs.getD (uA6 (bs.getD s 0) (bs.getD (s + 1) 0) s) 0) - 240))) pk) tw_row10 (xs := pk) rfl (v := uPn ((bs.getD (uA6 (bs.getD s 0) (bs.getD (s + 1) 0) s) 0) - 240) (nb bs ((uA6 (bs.getD s 0) (bs.getD (s + 1) 0) s) + 1) 3)) (i := 4) (uPn_lt (by omega) (fun h => by omega) (fun h => by omega)) (by omega)) mm_X7_addNumber wd_472 rfl (hG 10 (by decide)) sh_10 rfl (by decide) rfl (Nat.le_of_ble_eq_true rfl) dX9_readsPorts_118 ?_
                      rintro _ _ rfl
                      show TW G X (tw_uR (UF B (upd (upd F 2 (nI ((uA6 (bs.getD s 0) (bs.getD (s + 1) 0) s) + 1))) 8 (nI ((bs.getD (uA6 (bs.getD s 0) (bs.getD (s + 1) 0) s) 0) - 240))) pk) 10 ((pk ++ be (uPn ((bs.getD (uA6 (bs.getD s 0) (bs.getD (s + 1) 0) s) 0) - 240) (nb bs ((uA6 (bs.getD s 0) (bs.getD (s + 1) 0) s) + 1) 3)) 4).take (tw_cap 10))) [(3, .int (nI 3)), (2, .int (nI ((bs.getD (uA6 (bs.getD s 0) (bs.getD (s + 1) 0) s) 0) - 240))), (0, .ref (tw_ad G 9)), (1, .ref (tw_ad G q))] 121 []
                      refine TW.sS (S' := UF B (upd (upd F 2 (nI ((uA6 (bs.getD s 0) (bs.getD (s + 1) 0) s) + 1))) 8 (nI ((bs.getD (uA6 (bs.getD s 0) (bs.getD (s + 1) 0) s) 0) - 240))) ((pk ++ be (uPn ((bs.getD (uA6 (bs.getD s 0) (bs.getD (s + 1) 0) s) 0) - 240) (nb bs ((uA6 (bs.getD s 0) (bs.getD (s + 1) 0) s) + 1) 3)) 4).take (tw_cap 10))) (UF_uR _ _ _ _) ?_
                      refine tw_aload_n C dX9_readsPorts_121 2 rfl ?_
                      refine tw_getR (q := 10) (k := 1) C dX9_readsPorts_122 fc_X9 sh_9 (hG 9 (by decide)) rfl (by decide) wd_64 ?_
                      refine tw_lconst C dX9_readsPorts_125 (v := lN 0) rfl ?_
                      refine tw_iconst C dX9_readsPorts_126 (v := nI 2) (by decide) ?_
                      refine tw_callV (As := [.long (lN 0), .int (nI 2)]) (rest := []) C N (e_X7_addNumber hG (S := UF B (upd (upd F 2 (nI ((uA6 (bs.getD s 0) (bs.getD (s + 1) 0) s) + 1))) 8 (nI ((bs.getD (uA6 (bs.getD s 0) (bs.getD (s + 1) 0) s) 0) - 240))) ((pk ++ be (uPn ((bs.getD (uA6 (bs.getD s 0) (bs.getD (s + 1) 0) s) 0) - 240) (nb bs ((uA6 (bs.getD s 0) (bs.getD (s + 1) 0) s) + 1) 3)) 4).take (tw_cap 10))) tw_row10 (xs := (pk ++ be (uPn ((bs.getD (uA6 (bs.getD s 0) (bs.getD (s + 1) 0) s) 0) - 240) (nb bs ((uA6 (bs.getD s 0) (bs.getD (s + 1) 0) s) + 1) 3)) 4).take (tw_cap 10)) rfl (v := 0) (i := 2) (by omega) (by omega)) mm_X7_addNumber wd_472 rfl (hG 10 (by decide)) sh_10 rfl (by decide) rfl (Nat.le_of_ble_eq_true rfl) dX9_readsPorts_127 ?_
                      rintro _ _ rfl
                      show TW G X (tw_uR (UF B (upd (upd F 2 (nI ((uA6 (bs.getD s 0) (bs.getD (s + 1) 0) s) + 1))) 8 (nI ((bs.getD (uA6 (bs.getD s 0) (bs.getD (s + 1) 0) s) 0) - 240))) ((pk ++ be (uPn ((bs.getD (uA6 (bs.getD s 0) (bs.getD (s + 1) 0) s) 0) - 240) (nb bs ((uA6 (bs.getD s 0) (bs.getD (s + 1) 0) s) + 1) 3)) 4).take (tw_cap 10))) 10 ((((pk ++ be (uPn ((bs.getD (uA6 (bs.getD s 0) (bs.getD (s + 1) 0) s) 0) - 240) (nb bs ((uA6 (bs.getD s 0) (bs.getD (s + 1) 0) s) + 1) 3)) 4).take (tw_cap 10)) ++ be 0 2).take (tw_cap 10))) [(3, .int (nI 3)), (2, .int (nI ((bs.getD (uA6 (bs.getD s 0) (bs.getD (s + 1) 0) s) 0) - 240))), (0, .ref (tw_ad G 9)), (1, .ref (tw_ad G q))] 130 []
                      refine TW.sS (S' := UF B (upd (upd F 2 (nI ((uA6 (bs.getD s 0) (bs.getD (s + 1) 0) s) + 1))) 8 (nI ((bs.getD (uA6 (bs.getD s 0) (bs.getD (s + 1) 0) s) 0) - 240))) ((pk ++ be (uPn ((bs.getD (uA6 (bs.getD s 0) (bs.getD (s + 1) 0) s) 0) - 240) (nb bs ((uA6 (bs.getD s 0) (bs.getD (s + 1) 0) s) + 1) 3)) 4 ++ be 0 2).take (tw_cap 10))) (by rw [UF_uR, tk_tk]) ?_
                      refine tw_aload_n C dX9_readsPorts_130 2 rfl ?_
                      refine tw_getR (q := 10) (k := 1) C dX9_readsPorts_131 fc_X9 sh_9 (hG 9 (by decide)) rfl (by decide) wd_64 ?_
                      refine tw_aload_n C dX9_readsPorts_134 3 rfl ?_
                      refine tw_aload_n C dX9_readsPorts_135 2 rfl ?_
                      refine tw_getI (v := nI ((uA6 (bs.getD s 0) (bs.getD (s + 1) 0) s) + 1)) (k := 2) C dX9_readsPorts_136 fc_X9 sh_9 (hG 9 (by decide)) rfl (by decide) wd_360 rfl ?_
                      refine tw_iload_n C dX9_readsPorts_139 0 rfl ?_
                      refine tw_iadd C dX9_readsPorts_140 (v := nI (((uA6 (bs.getD s 0) (bs.getD (s + 1) 0) s) + 1) + 3)) (nI_add _ _) ?_
                      refine tw_iconst C dX9_readsPorts_141 (v := nI 2) (by decide) ?_
                      refine tw_callV (As := [.int (nI (((uA6 (bs.getD s 0) (bs.getD (s + 1) 0) s) + 1) + 3)), .int (nI 2)]) (rest := [.ref (tw_ad G 10)]) C N (e_X7_number hG (S := UF B (upd (upd F 2 (nI ((uA6 (bs.getD s 0) (bs.getD (s + 1) 0) s) + 1))) 8 (nI ((bs.getD (uA6 (bs.getD s 0) (bs.getD (s + 1) 0) s) 0) - 240))) ((pk ++ be (uPn ((bs.getD (uA6 (bs.getD s 0) (bs.getD (s + 1) 0) s) 0) - 240) (nb bs ((uA6 (bs.getD s 0) (bs.getD (s + 1) 0) s) + 1) 3)) 4 ++ be 0 2).take (tw_cap 10))) hq (xs := bs) (UF_R hq10 hbs) (f := ((uA6 (bs.getD s 0) (bs.getD (s + 1) 0) s) + 1) + 3) (i := 2) (by omega) (by omega)) mm_X7_number wd_413 rfl (hG _ (tw_row_lt hq).2) (tw_row_sh hq) rfl (by decide) rfl (Nat.le_of_ble_eq_true rfl) dX9_readsPorts_142 ?_
                      rintro _ _ ⟨rfl, rfl⟩
                      show TW G X (UF B (upd (upd F 2 (nI ((uA6 (bs.getD s 0) (bs.getD (s + 1) 0) s) + 1))) 8 (nI ((bs.getD (uA6 (bs.getD s 0) (bs.getD (s + 1) 0) s) 0) - 240))) ((pk ++ be (uPn ((bs.getD (uA6 (bs.getD s 0) (bs.getD (s + 1) 0) s) 0) - 240) (nb bs ((uA6 (bs.getD s 0) (bs.getD (s + 1) 0) s) + 1) 3)) 4 ++ be 0 2).take (tw_cap 10))) [(3, .int (nI 3)), (2, .int (nI ((bs.getD (uA6 (bs.getD s 0) (bs.getD (s + 1) 0) s) 0) - 240))), (0, .ref (tw_ad G 9)), (1, .ref (tw_ad G q))] 145 [.long (lN (nb bs (((uA6 (bs.getD s 0) (bs.getD (s + 1) 0) s) + 1) + 3) 2)), .ref (tw_ad G 10)]
                      refine tw_iconst C dX9_readsPorts_145 (v := nI 2) (by decide) ?_
                      refine tw_callV (As := [.long (lN (nb bs (((uA6 (bs.getD s 0) (bs.getD (s + 1) 0) s) + 1) + 3) 2)), .int (nI 2)]) (rest := []) C N (e_X7_addNumber hG (S := UF B (upd (upd F 2 (nI ((uA6 (bs.getD s 0) (bs.getD (s + 1) 0) s) + 1))) 8 (nI ((bs.getD (uA6 (bs.getD s 0) (bs.getD (s + 1) 0) s) 0) - 240))) ((pk ++ be (uPn ((bs.getD (uA6 (bs.getD s 0) (bs.getD (s + 1) 0) s) 0) - 240) (nb bs ((uA6 (bs.getD s 0) (bs.getD (s + 1) 0) s) + 1) 3)) 4 ++ be 0 2).take (tw_cap 10))) tw_row10 (xs := (pk ++ be (uPn ((bs.getD (uA6 (bs.getD s 0) (bs.getD (s + 1) 0) s) 0) - 240) (nb bs ((uA6 (bs.getD s 0) (bs.getD (s + 1) 0) s) + 1) 3)) 4 ++ be 0 2).take (tw_cap 10)) rfl (v := nb bs (((uA6 (bs.getD s 0) (bs.getD (s + 1) 0) s) + 1) + 3) 2) (i := 2) (by omega) (by omega)) mm_X7_addNumber wd_472 rfl (hG 10 (by decide)) sh_10 rfl (by decide) rfl (Nat.le_of_ble_eq_true rfl) dX9_readsPorts_146 ?_
                      rintro _ _ rfl
                      show TW G X (tw_uR (UF B (upd (upd F 2 (nI ((uA6 (bs.getD s 0) (bs.getD (s + 1) 0) s) + 1))) 8 (nI ((bs.getD (uA6 (bs.getD s 0) (bs.getD (s + 1) 0) s) 0) - 240))) ((pk ++ be (uPn ((bs.getD (uA6 (bs.getD s 0) (bs.getD (s + 1) 0) s) 0) - 240) (nb bs ((uA6 (bs.getD s 0) (bs.getD (s + 1) 0) s) + 1) 3)) 4 ++ be 0 2).take (tw_cap 10))) 10 ((((pk ++ be (uPn ((bs.getD (uA6 (bs.getD s 0) (bs.getD (s + 1) 0) s) 0) - 240) (nb bs ((uA6 (bs.getD s 0) (bs.getD (s + 1) 0) s) + 1) 3)) 4 ++ be 0 2).take (tw_cap 10)) ++ be (nb bs (((uA6 (bs.getD s 0) (bs.getD (s + 1) 0) s) + 1) + 3) 2) 2).take (tw_cap 10))) [(3, .int (nI 3)), (2, .int (nI ((bs.getD (uA6 (bs.getD s 0) (bs.getD (s + 1) 0) s) 0) - 240))), (0, .ref (tw_ad G 9)), (1, .ref (tw_ad G q))] 149 []
                      refine TW.sS (S' := UF B (upd (upd F 2 (nI ((uA6 (bs.getD s 0) (bs.getD (s + 1) 0) s) + 1))) 8 (nI ((bs.getD (uA6 (bs.getD s 0) (bs.getD (s + 1) 0) s) 0) - 240))) ((pk ++ be (uPn ((bs.getD (uA6 (bs.getD s 0) (bs.getD (s + 1) 0) s) 0) - 240) (nb bs ((uA6 (bs.getD s 0) (bs.getD (s + 1) 0) s) + 1) 3)) 4 ++ be 0 2 ++ be (nb bs (((uA6 (bs.getD s 0) (bs.getD (s + 1) 0) s) + 1) + 3) 2) 2).take (tw_cap 10))) (by rw [UF_uR, tk_tk]) ?_
                      refine tw_aload_n C dX9_readsPorts_149 2 rfl ?_
                      refine tw_dup C dX9_readsPorts_150 rfl ?_
                      refine tw_getI (v := nI ((uA6 (bs.getD s 0) (bs.getD (s + 1) 0) s) + 1)) (k := 2) C dX9_readsPorts_151 fc_X9 sh_9 (hG 9 (by decide)) rfl (by decide) wd_360 rfl ?_
                      refine tw_iload_n C dX9_readsPorts_154 0 rfl ?_
                      refine tw_iconst C dX9_readsPorts_155 (v := nI 2) (by decide) ?_
                      refine tw_iadd C dX9_readsPorts_156 (v := nI (3 + 2)) (nI_add _ _) ?_
                      refine tw_iadd C dX9_readsPorts_157 (v := nI (((uA6 (bs.getD s 0) (bs.getD (s + 1) 0) s) + 1) + (3 + 2))) (nI_add _ _) ?_
                      refine tw_putI (k := 2) C dX9_readsPorts_158 fc_X9 sh_9 (hG 9 (by decide)) rfl (by decide) rfl wd_360 rfl rfl ?_
                      refine TW.sS (S' := UF B (upd (upd (upd F 2 (nI ((uA6 (bs.getD s 0) (bs.getD (s + 1) 0) s) + 1))) 8 (nI ((bs.getD (uA6 (bs.getD s 0) (bs.getD (s + 1) 0) s) 0) - 240))) 2 (nI (((uA6 (bs.getD s 0) (bs.getD (s + 1) 0) s) + 1) + (3 + 2)))) ((pk ++ be (uPn ((bs.getD (uA6 (bs.getD s 0) (bs.getD (s + 1) 0) s) 0) - 240) (nb bs ((uA6 (bs.getD s 0) (bs.getD (s + 1) 0) s) + 1) 3)) 4 ++ be 0 2 ++ be (nb bs (((uA6 (bs.getD s 0) (bs.getD (s + 1) 0) s) + 1) + 3) 2) 2).take (tw_cap 10))) (UF_uI _ _ _ _ _) ?_
                      refine tw_iconst C dX9_readsPorts_161 (v := nI 1) (by decide) ?_
                      exact tw_ireturn C Q dX9_readsPorts_162 rfl rfl rfl (Or.inl ⟨uFt_p4 h3 ha6 cp (by omega) (by rw [hpf]; omega), by rw [uA7_p cp, hpf]; omega, rfl, upd (upd (upd F 2 (nI ((uA6 (bs.getD s 0) (bs.getD (s + 1) 0) s) + 1))) 8 (nI ((bs.getD (uA6 (bs.getD s 0) (bs.getD (s + 1) 0) s) 0) - 240))) 2 (nI (((uA6 (bs.getD s 0) (bs.getD (s + 1) 0) s) + 1) + (3 + 2))), by rw [if_pos cp, List.take_of_length_le (by simp only [List.length_append, be_len]; rw [hpl]; decide), uFm, hpf]; simp only [List.append_assoc], by rw [uA7_p cp, hpf]; rfl, hF.2.1, hF.2.2.1, hF.2.2.2.1, hF.2.2.2.2.1, hF.2.2.2.2.2.1, by rw [if_pos cp]; rfl⟩)
                    · exact absurd c31 (by decide)
                  · show TW G X (UF B (upd (upd (upd F 2 (nI ((uA6 (bs.getD s 0) (bs.getD (s + 1) 0) s) + 1))) 3 (nI 1)) 4 (nI bs.length)) pk) [(3, .int (nI 3)), (2, .int (nI ((bs.getD (uA6 (bs.getD s 0) (bs.getD (s + 1) 0) s) 0) - 240))), (0, .ref (tw_ad G 9)), (1, .ref (tw_ad G q))] 90 [.int (bI false)]
                    refine tb_if_ne C dX9_readsPorts_90 (tgt := 95) (by decide) (fun c38 => ?_) (fun c38 => ?_)
                    · exact absurd c38 (by decide)
                    refine tw_iconst C dX9_readsPorts_93 (v := nI 0) (by decide) ?_
                    exact tw_ireturn C Q dX9_readsPorts_94 rfl rfl rfl (Or.inr ⟨rfl, uFail_of (uFt_p3 h3 ha6 cp (by omega) (by omega) (by rw [hpf]; omega)) (by decide) rfl rfl rfl⟩)
                · exact absurd qz (by omega)
              · exact absurd qz (by omega)
          · skip
            refine tw_aload_n C dX9_readsPorts_42 1 rfl ?_
            refine tw_bipush C dX9_readsPorts_43 (v := nI 6) (by decide) ?_
            refine tw_aload_n C dX9_readsPorts_45 1 rfl ?_
            refine tw_getI (v := nI (uA6 (bs.getD s 0) (bs.getD (s + 1) 0) s)) (k := 2) C dX9_readsPorts_46 fc_X9 sh_9 (hG 9 (by decide)) rfl (by decide) wd_360 hF.1 ?_
            refine tw_callV (As := [.int (nI 6), .int (nI (uA6 (bs.getD s 0) (bs.getD (s + 1) 0) s))]) (rest := []) C N (c_X9_fails hG (B := B) (F := F) (pk := pk) (f := 6) (p := uA6 (bs.getD s 0) (bs.getD (s + 1) 0) s)) mm_X9_fails wd_381 rfl (hG 9 (by decide)) sh_9 rfl (by decide) rfl (Nat.le_of_ble_eq_true rfl) dX9_readsPorts_49 ?_
            rintro _ _ ⟨rfl, rfl⟩
            show TW G X (UF B (upd (upd F 3 (nI 6)) 4 (nI (uA6 (bs.getD s 0) (bs.getD (s + 1) 0) s))) pk) [(2, .int (nI ((bs.getD (uA6 (bs.getD s 0) (bs.getD (s + 1) 0) s) 0) - 240))), (0, .ref (tw_ad G 9)), (1, .ref (tw_ad G q))] 52 [.int (bI false)]
            exact tw_ireturn C Q dX9_readsPorts_52 rfl (bI_nar _) rfl (Or.inr ⟨rfl, uFail_of (uFt_p2 h3 ha6 cp (by omega) (by omega)) (by decide) rfl rfl rfl⟩)
      · exact absurd c4 (by decide)
    · show TW G X (UF B (upd (upd F 3 (nI 1)) 4 (nI bs.length)) pk) [(0, .ref (tw_ad G 9)), (1, .ref (tw_ad G q))] 15 [.int (bI false)]
      refine tb_if_ne C dX9_readsPorts_15 (tgt := 20) (by decide) (fun c40 => ?_) (fun c40 => ?_)
      · exact absurd c40 (by decide)
      refine tw_iconst C dX9_readsPorts_18 (v := nI 0) (by decide) ?_
      exact tw_ireturn C Q dX9_readsPorts_19 rfl rfl rfl (Or.inr ⟨rfl, uFail_of (uFt_p1 h3 ha6 cp (by omega)) (by decide) rfl rfl rfl⟩)
  · skip
    refine tw_iconst C dX9_readsPorts_7 (v := nI 1) (by decide) ?_
    exact tw_ireturn C Q dX9_readsPorts_8 rfl rfl rfl (Or.inl ⟨uFt_p0 h3 ha6 cp, by rw [uA7_n cp]; exact ha6, rfl, F, by rw [if_neg (by rw [cp]; decide)], by rw [uA7_n cp]; exact hF.1, hF.2.1, hF.2.2.1, hF.2.2.2.1, hF.2.2.2.2.1, hF.2.2.2.2.2.1, by rw [if_neg (by rw [cp]; decide)]; exact hF.2.2.2.2.2.2⟩)
theorem c_X9_readsRest0 {G : tw_G} (hG : tw_cG G) {B : tw_S} {F : Nat → Int32} {pk : List Nat} {q : Nat} (hq : tw_isRow q = true) (hq10 : q ≠ 10) {bs : List Nat} (hbs : tw_R B q = bs) (hby : ∀ x ∈ bs, x < 256) (hlen : bs.length ≤ 640) {s : Nat} {x6 x7 x8 : Int32} (hs : s < 2 ^ 20) (ha7 : uA7 bs (bs.getD s 0) (bs.getD (s + 1) 0) s ≤ bs.length) (hpl : pk.length = if uPo (bs.getD s 0) then 48 else 40) (hF : UK F (uA7 bs (bs.getD s 0) (bs.getD (s + 1) 0) s) 0 0 (nI (bs.getD s 0)) x6 x7 x8) : tw_M G yX9_readsRest cX9_readsRest 4 (some .boolean) 2 47 [.ref (tw_ad G 9), .ref (tw_ad G q), .int (-1)] (UF B F pk) ri_I (fun v S' => (uBe bs s none ≤ 560 ∧ v = bI true ∧ S' = UF B F ((if uPo (bs.getD s 0) then setN (setN pk 4 (be (uBe bs s none) 2)) 44 (be (uBe bs s none) 2) else setN pk 4 (be (uBe bs s none) 2)) ++ cutD bs (uA7 bs (bs.getD s 0) (bs.getD (s + 1) 0) s) (bs.length - uA7 bs (bs.getD s 0) (bs.getD (s + 1) 0) s))) ∨ (560 < uBe bs s none ∧ v = bI false ∧ uFail B S' (7, bs.length))) := by
  refine tw_M.of (L := [(0, .ref (tw_ad G 9)), (1, .ref (tw_ad G q)), (2, .int ((-1)))]) (by decide) (Nat.le_of_ble_eq_true rfl) rfl (fun X C N Q => ?_)
  have C : tw_C G X cX9_readsRest RX9 := C
  have hb0 := getD_in hby s
  have hb1 := getD_in hby (s + 1)
  refine tw_iload_n C dX9_readsRest_0 2 rfl ?_
  refine tw_istore_n (L' := [(3, .int ((-1))), (0, .ref (tw_ad G 9)), (1, .ref (tw_ad G q)), (2, .int ((-1)))]) C N dX9_readsRest_1 rfl (by decide) rfl ?_
  have hbe : uBe bs s none = bs.length - uA7 bs (bs.getD s 0) (bs.getD (s + 1) 0) s + (if uPo (bs.getD s 0) then 8 else 0) := rfl
  have hpl2 : 40 ≤ pk.length ∧ pk.length ≤ 48 := by split at hpl <;> omega
  have hbe2 : uBe bs s none ≤ 700 := by rw [hbe]; split <;> omega
  refine tw_iload_n C dX9_readsRest_2 3 rfl ?_
  refine tw_iconst C dX9_readsRest_3 (v := (-1)) (by decide) ?_
  refine tw_icmp_ne C dX9_readsRest_4 (tgt := 28) (by decide) (fun c1 => ?_) (fun c1 => ?_)
  · exact absurd rfl c1
  refine tw_aload_n C dX9_readsRest_7 2 rfl ?_
  refine tw_callV (As := []) (rest := []) C N (e_X7_length hG (S := UF B F pk) hq (xs := bs) (UF_R hq10 hbs) ) mm_X7_length wd_380 rfl (hG _ (tw_row_lt hq).2) (tw_row_sh hq) rfl (by decide) rfl (Nat.le_of_ble_eq_true rfl) dX9_readsRest_8 ?_
  rintro _ _ ⟨rfl, rfl⟩
  show TW G X (UF B F pk) [(3, .int ((-1))), (0, .ref (tw_ad G 9)), (1, .ref (tw_ad G q)), (2, .int ((-1)))] 11 [.int (nI bs.length)]
  refine tw_aload_n C dX9_readsRest_11 1 rfl ?_
  refine tw_getI (v := nI (uA7 bs (bs.getD s 0) (bs.getD (s + 1) 0) s)) (k := 2) C dX9_readsRest_12 fc_X9 sh_9 (hG 9 (by decide)) rfl (by decide) wd_360 hF.1 ?_
  refine tw_isub C dX9_readsRest_15 (v := nI (bs.length - (uA7 bs (bs.getD s 0) (bs.getD (s + 1) 0) s))) (pk_sub (by omega)) ?_
  refine tw_aload_n C dX9_readsRest_16 1 rfl ?_
  refine tw_getR (q := 10) (k := 1) C dX9_readsRest_17 fc_X9 sh_9 (hG 9 (by decide)) rfl (by decide) wd_64 ?_
  refine tw_callV (As := []) (rest := [.int (nI (bs.length - (uA7 bs (bs.getD s 0) (bs.getD (s + 1) 0) s)))]) C N (e_X7_length hG (S := UF B F pk) tw_row10 (xs := pk) rfl ) mm_X7_length wd_380 rfl (hG 10 (by decide)) sh_10 rfl (by decide) rfl (Nat.le_of_ble_eq_true rfl) dX9_readsRest_20 ?_
  rintro _ _ ⟨rfl, rfl⟩
  show TW G X (UF B F pk) [(3, .int ((-1))), (0, .ref (tw_ad G 9)), (1, .ref (tw_ad G q)), (2, .int ((-1)))] 23 [.int (nI pk.length), .int (nI (bs.length - (uA7 bs (bs.getD s 0) (bs.getD (s + 1) 0) s)))]
  refine tw_iadd C dX9_readsRest_23 (v := nI ((bs.length - (uA7 bs (bs.getD s 0) (bs.getD (s + 1) 0) s)) + pk.length)) (nI_add _ _) ?_
  refine tw_bipush C dX9_readsRest_24 (v := nI 40) (by decide) ?_
  refine tw_isub C dX9_readsRest_26 (v := nI (((bs.length - (uA7 bs (bs.getD s 0) (bs.getD (s + 1) 0) s)) + pk.length) - 40)) (pk_sub (by omega)) ?_
  refine TW.ti (y := nI (uBe bs s none)) (congrArg nI (by rw [hbe]; split at hpl <;> simp only [*, if_true, if_false, Bool.false_eq_true] <;> omega)) ?_
  refine tw_istore_n (L' := [(3, .int (nI (uBe bs s none))), (0, .ref (tw_ad G 9)), (1, .ref (tw_ad G q)), (2, .int ((-1)))]) C N dX9_readsRest_27 rfl (by decide) rfl ?_
  refine tw_iload_n C dX9_readsRest_28 0 rfl ?_
  refine tw_sipush C dX9_readsRest_29 (v := nI 560) (by decide) ?_
  refine tn_icmp_le C dX9_readsRest_32 (tgt := 46) (by decide) (by omega) (by omega) (fun c3 => ?_) (fun c3 => ?_)
  · skip
    refine tw_aload_n C dX9_readsRest_46 1 rfl ?_
    refine tw_getR (q := 10) (k := 1) C dX9_readsRest_47 fc_X9 sh_9 (hG 9 (by decide)) rfl (by decide) wd_64 ?_
    refine tw_iconst C dX9_readsRest_50 (v := nI 4) (by decide) ?_
    refine tw_iload_n C dX9_readsRest_51 0 rfl ?_
    refine tw_i2l C dX9_readsRest_52 (v := lN (uBe bs s none)) (nI_i64 (by omega)) ?_
    refine tw_iconst C dX9_readsRest_53 (v := nI 2) (by decide) ?_
    refine tw_callV (As := [.int (nI 4), .long (lN (uBe bs s none)), .int (nI 2)]) (rest := []) C N (e_X7_setNumber hG (S := UF B F pk) tw_row10 (xs := pk) rfl (f := 4) (v := uBe bs s none) (i := 2) (by omega) (by omega) (by omega)) mm_X7_setNumber wd_415 rfl (hG 10 (by decide)) sh_10 rfl (by decide) rfl (Nat.le_of_ble_eq_true rfl) dX9_readsRest_54 ?_
    rintro _ _ rfl
    show TW G X (tw_uR (UF B F pk) 10 (setN pk 4 (be (uBe bs s none) 2))) [(3, .int (nI (uBe bs s none))), (0, .ref (tw_ad G 9)), (1, .ref (tw_ad G q)), (2, .int ((-1)))] 57 []
    refine TW.sS (S' := UF B F (setN pk 4 (be (uBe bs s none) 2))) (UF_uR _ _ _ _) ?_
    refine tw_aload_n C dX9_readsRest_57 1 rfl ?_
    refine tw_callV (As := []) (rest := []) C N (c_X9_ports hG (B := B) (F := F) (pk := setN pk 4 (be (uBe bs s none) 2)) (b0 := (bs.getD s 0)) hF.2.2.2.1 (by assumption)) mm_X9_ports wd_427 rfl (hG 9 (by decide)) sh_9 rfl (by decide) rfl (Nat.le_of_ble_eq_true rfl) dX9_readsRest_58 ?_
    rintro _ _ ⟨rfl, rfl⟩
    show TW G X (UF B F (setN pk 4 (be (uBe bs s none) 2))) [(3, .int (nI (uBe bs s none))), (0, .ref (tw_ad G 9)), (1, .ref (tw_ad G q)), (2, .int ((-1)))] 61 [.int (bI (uPo ((bs.getD s 0))))]
    refine tb_if_eq C dX9_readsRest_61 (tgt := 76) (by decide) (fun cp => ?_) (fun cp => ?_)
    · rw [if_neg (by rw [cp]; decide)] at hpl hbe
      refine tw_aload_n C dX9_readsRest_76 1 rfl ?_
      refine tw_getR (q := 10) (k := 1) C dX9_readsRest_77 fc_X9 sh_9 (hG 9 (by decide)) rfl (by decide) wd_64 ?_
      refine tw_aload_n C dX9_readsRest_80 2 rfl ?_
      refine tw_aload_n C dX9_readsRest_81 1 rfl ?_
      refine tw_getI (v := nI (uA7 bs (bs.getD s 0) (bs.getD (s + 1) 0) s)) (k := 2) C dX9_readsRest_82 fc_X9 sh_9 (hG 9 (by decide)) rfl (by decide) wd_360 hF.1 ?_
      refine tw_aload_n C dX9_readsRest_85 2 rfl ?_
      refine tw_callV (As := []) (rest := [.int (nI (uA7 bs (bs.getD s 0) (bs.getD (s + 1) 0) s)), .ref (tw_ad G q), .ref (tw_ad G 10)]) C N (e_X7_length hG (S := UF B F (setN pk 4 (be (uBe bs s none) 2))) hq (xs := bs) (UF_R hq10 hbs) ) mm_X7_length wd_380 rfl (hG _ (tw_row_lt hq).2) (tw_row_sh hq) rfl (by decide) rfl (Nat.le_of_ble_eq_true rfl) dX9_readsRest_86 ?_
      rintro _ _ ⟨rfl, rfl⟩
      show TW G X (UF B F (setN pk 4 (be (uBe bs s none) 2))) [(3, .int (nI (uBe bs s none))), (0, .ref (tw_ad G 9)), (1, .ref (tw_ad G q)), (2, .int ((-1)))] 89 [.int (nI bs.length), .int (nI (uA7 bs (bs.getD s 0) (bs.getD (s + 1) 0) s)), .ref (tw_ad G q), .ref (tw_ad G 10)]
      refine tw_callV (As := [.ref (tw_ad G q), .int (nI (uA7 bs (bs.getD s 0) (bs.getD (s + 1) 0) s)), .int (nI bs.length)]) (rest := []) C N (e_X7_addAll hG (S := UF B F (setN pk 4 (be (uBe bs s none) 2))) tw_row10 (xs := setN pk 4 (be (uBe bs s none) 2)) rfl hq hq10 (ys := bs) (UF_R hq10 hbs) (a := uA7 bs (bs.getD s 0) (bs.getD (s + 1) 0) s) (e := bs.length) (by omega) (by omega)) mm_X7_addAll wd_477 rfl (hG 10 (by decide)) sh_10 rfl (by decide) rfl (Nat.le_of_ble_eq_true rfl) dX9_readsRest_89 ?_
      rintro _ _ rfl
      show TW G X (tw_uR (UF B F (setN pk 4 (be (uBe bs s none) 2))) 10 (((setN pk 4 (be (uBe bs s none) 2)) ++ cutD bs (uA7 bs (bs.getD s 0) (bs.getD (s + 1) 0) s) (bs.length - (uA7 bs (bs.getD s 0) (bs.getD (s + 1) 0) s))).take (tw_cap 10))) [(3, .int (nI (uBe bs s none))), (0, .ref (tw_ad G 9)), (1, .ref (tw_ad G q)), (2, .int ((-1)))] 92 []
      refine TW.sS (S' := UF B F (((setN pk 4 (be (uBe bs s none) 2)) ++ cutD bs (uA7 bs (bs.getD s 0) (bs.getD (s + 1) 0) s) (bs.length - (uA7 bs (bs.getD s 0) (bs.getD (s + 1) 0) s))).take (tw_cap 10))) (UF_uR _ _ _ _) ?_
      refine tw_iconst C dX9_readsRest_92 (v := nI 1) (by decide) ?_
      exact tw_ireturn C Q dX9_readsRest_93 rfl rfl rfl (Or.inl ⟨by omega, rfl, by rw [if_neg (by rw [cp]; decide), List.take_of_length_le (by rw [List.length_append, cutD_len, setN_len]; show _ ≤ 600; omega)]⟩)
    · rw [if_pos cp] at hpl hbe
      refine tw_aload_n C dX9_readsRest_64 1 rfl ?_
      refine tw_getR (q := 10) (k := 1) C dX9_readsRest_65 fc_X9 sh_9 (hG 9 (by decide)) rfl (by decide) wd_64 ?_
      refine tw_bipush C dX9_readsRest_68 (v := nI 44) (by decide) ?_
      refine tw_iload_n C dX9_readsRest_70 0 rfl ?_
      refine tw_i2l C dX9_readsRest_71 (v := lN (uBe bs s none)) (nI_i64 (by omega)) ?_
      refine tw_iconst C dX9_readsRest_72 (v := nI 2) (by decide) ?_
      refine tw_callV (As := [.int (nI 44), .long (lN (uBe bs s none)), .int (nI 2)]) (rest := []) C N (e_X7_setNumber hG (S := UF B F (setN pk 4 (be (uBe bs s none) 2))) tw_row10 (xs := setN pk 4 (be (uBe bs s none) 2)) rfl (f := 44) (v := uBe bs s none) (i := 2) (by omega) (by omega) (by omega)) mm_X7_setNumber wd_415 rfl (hG 10 (by decide)) sh_10 rfl (by decide) rfl (Nat.le_of_ble_eq_true rfl) dX9_readsRest_73 ?_
      rintro _ _ rfl
      show TW G X (tw_uR (UF B F (setN pk 4 (be (uBe bs s none) 2))) 10 (setN (setN pk 4 (be (uBe bs s none) 2)) 44 (be (uBe bs s none) 2))) [(3, .int (nI (uBe bs s none))), (0, .ref (tw_ad G 9)), (1, .ref (tw_ad G q)), (2, .int ((-1)))] 76 []
      refine TW.sS (S' := UF B F (setN (setN pk 4 (be (uBe bs s none) 2)) 44 (be (uBe bs s none) 2))) (UF_uR _ _ _ _) ?_
      refine tw_aload_n C dX9_readsRest_76 1 rfl ?_
      refine tw_getR (q := 10) (k := 1) C dX9_readsRest_77 fc_X9 sh_9 (hG 9 (by decide)) rfl (by decide) wd_64 ?_
      refine tw_aload_n C dX9_readsRest_80 2 rfl ?_
      refine tw_aload_n C dX9_readsRest_81 1 rfl ?_
      refine tw_getI (v := nI (uA7 bs (bs.getD s 0) (bs.getD (s + 1) 0) s)) (k := 2) C dX9_readsRest_82 fc_X9 sh_9 (hG 9 (by decide)) rfl (by decide) wd_360 hF.1 ?_
      refine tw_aload_n C dX9_readsRest_85 2 rfl ?_
      refine tw_callV (As := []) (rest := [.int (nI (uA7 bs (bs.getD s 0) (bs.getD (s + 1) 0) s)), .ref (tw_ad G q), .ref (tw_ad G 10)]) C N (e_X7_length hG (S := UF B F (setN (setN pk 4 (be (uBe bs s none) 2)) 44 (be (uBe bs s none) 2))) hq (xs := bs) (UF_R hq10 hbs) ) mm_X7_length wd_380 rfl (hG _ (tw_row_lt hq).2) (tw_row_sh hq) rfl (by decide) rfl (Nat.le_of_ble_eq_true rfl) dX9_readsRest_86 ?_
      rintro _ _ ⟨rfl, rfl⟩
      show TW G X (UF B F (setN (setN pk 4 (be (uBe bs s none) 2)) 44 (be (uBe bs s none) 2))) [(3, .int (nI (uBe bs s none))), (0, .ref (tw_ad G 9)), (1, .ref (tw_ad G q)), (2, .int ((-1)))] 89 [.int (nI bs.length), .int (nI (uA7 bs (bs.getD s 0) (bs.getD (s + 1) 0) s)), .ref (tw_ad G q), .ref (tw_ad G 10)]
      refine tw_callV (As := [.ref (tw_ad G q), .int (nI (uA7 bs (bs.getD s 0) (bs.getD (s + 1) 0) s)), .int (nI bs.length)]) (rest := []) C N (e_X7_addAll hG (S := UF B F (setN (setN pk 4 (be (uBe bs s none) 2)) 44 (be (uBe bs s none) 2))) tw_row10 (xs := setN (setN pk 4 (be (uBe bs s none) 2)) 44 (be (uBe bs s none) 2)) rfl hq hq10 (ys := bs) (UF_R hq10 hbs) (a := uA7 bs (bs.getD s 0) (bs.getD (s + 1) 0) s) (e := bs.length) (by omega) (by omega)) mm_X7_addAll wd_477 rfl (hG 10 (by decide)) sh_10 rfl (by decide) rfl (Nat.le_of_ble_eq_true rfl) dX9_readsRest_89 ?_
      rintro _ _ rfl
      show TW G X (tw_uR (UF B F (setN (setN pk 4 (be (uBe bs s none) 2)) 44 (be (uBe bs s none) 2))) 10 (((setN (setN pk 4 (be (uBe bs s none) 2)) 44 (be (uBe bs s none) 2)) ++ cutD bs (uA7 bs (bs.getD s 0) (bs.getD (s + 1) 0) s) (bs.length - (uA7 bs (bs.getD s 0) (bs.getD (s + 1) 0) s))).take (tw_cap 10))) [(3, .int (nI (uBe bs s none))), (0, .ref (tw_ad G 9)), (1, .ref (tw_ad G q)), (2, .int ((-1)))] 92 []
      refine TW.sS (S' := UF B F (((setN (setN pk 4 (be (uBe bs s none) 2)) 44 (be (uBe bs s none) 2)) ++ cutD bs (uA7 bs (bs.getD s 0) (bs.getD (s + 1) 0) s) (bs.length - (uA7 bs (bs.getD s 0) (bs.getD (s + 1) 0) s))).take (tw_cap 10))) (UF_uR _ _ _ _) ?_
      refine tw_iconst C dX9_readsRest_92 (v := nI 1) (by decide) ?_
      exact tw_ireturn C Q dX9_readsRest_93 rfl rfl rfl (Or.inl ⟨by omega, rfl, by rw [if_pos cp, List.take_of_length_le (by rw [List.length_append, cutD_len, setN_len, setN_len]; show _ ≤ 600; omega)]⟩)
  · skip
    refine tw_aload_n C dX9_readsRest_35 1 rfl ?_
    refine tw_bipush C dX9_readsRest_36 (v := nI 7) (by decide) ?_
    refine tw_aload_n C dX9_readsRest_38 2 rfl ?_
    refine tw_callV (As := []) (rest := [.int (nI 7), .ref (tw_ad G 9)]) C N (e_X7_length hG (S := UF B F pk) hq (xs := bs) (UF_R hq10 hbs) ) mm_X7_length wd_380 rfl (hG _ (tw_row_lt hq).2) (tw_row_sh hq) rfl (by decide) rfl (Nat.le_of_ble_eq_true rfl) dX9_readsRest_39 ?_
    rintro _ _ ⟨rfl, rfl⟩
    show TW G X (UF B F pk) [(3, .int (nI (uBe bs s none))), (0, .ref (tw_ad G 9)), (1, .ref (tw_ad G q)), (2, .int ((-1)))] 42 [.int (nI bs.length), .int (nI 7), .ref (tw_ad G 9)]
    refine tw_callV (As := [.int (nI 7), .int (nI bs.length)]) (rest := []) C N (c_X9_fails hG (B := B) (F := F) (pk := pk) (f := 7) (p := bs.length)) mm_X9_fails wd_381 rfl (hG 9 (by decide)) sh_9 rfl (by decide) rfl (Nat.le_of_ble_eq_true rfl) dX9_readsRest_42 ?_
    rintro _ _ ⟨rfl, rfl⟩
    show TW G X (UF B (upd (upd F 3 (nI 7)) 4 (nI bs.length)) pk) [(3, .int (nI (uBe bs s none))), (0, .ref (tw_ad G 9)), (1, .ref (tw_ad G q)), (2, .int ((-1)))] 45 [.int (bI false)]
    exact tw_ireturn C Q dX9_readsRest_45 rfl (bI_nar _) rfl (Or.inr ⟨by omega, rfl, fun h => absurd h (by show ¬ 7 = 0; decide), _, _, rfl, rfl, rfl⟩)
theorem c_X9_readsRest1 {G : tw_G} (hG : tw_cG G) {B : tw_S} {F : Nat → Int32} {pk : List Nat} {q : Nat} (hq : tw_isRow q = true) (hq10 : q ≠ 10) {bs : List Nat} (hbs : tw_R B q = bs) (hby : ∀ x ∈ bs, x < 256) (hlen : bs.length ≤ 640) {m : Nat} (hm : m < 2 ^ 31) (hl : bs.length ≤ 120) {s : Nat} {x6 x7 x8 : Int32} (hs : s < 2 ^ 20) (ha7 : uA7 bs (bs.getD s 0) (bs.getD (s + 1) 0) s ≤ bs.length) (hpl : pk.length = if uPo (bs.getD s 0) then 48 else 40) (hF : UK F (uA7 bs (bs.getD s 0) (bs.getD (s + 1) 0) s) 0 0 (nI (bs.getD s 0)) x6 x7 x8) : tw_M G yX9_readsRest cX9_readsRest 4 (some .boolean) 2 47 [.ref (tw_ad G 9), .ref (tw_ad G q), .int (nI m)] (UF B F pk) ri_I (fun v S' => (uBe bs s (some m) ≤ 560 ∧ v = bI true ∧ S' = UF B F ((if uPo (bs.getD s 0) then setN (setN pk 4 (be (uBe bs s (some m)) 2)) 44 (be (uBe bs s (some m)) 2) else setN pk 4 (be (uBe bs s (some m)) 2)) ++ cutD bs (uA7 bs (bs.getD s 0) (bs.getD (s + 1) 0) s) (bs.length - uA7 bs (bs.getD s 0) (bs.getD (s + 1) 0) s))) ∨ (560 < uBe bs s (some m) ∧ v = bI false ∧ uFail B S' (7, bs.length))) := by
  refine tw_M.of (L := [(0, .ref (tw_ad G 9)), (1, .ref (tw_ad G q)), (2, .int (nI m))]) (by decide) (Nat.le_of_ble_eq_true rfl) rfl (fun X C N Q => ?_)
  have C : tw_C G X cX9_readsRest RX9 := C
  have hb0 := getD_in hby s
  have hb1 := getD_in hby (s + 1)
  refine tw_iload_n C dX9_readsRest_0 2 rfl ?_
  refine tw_istore_n (L' := [(3, .int (nI m)), (0, .ref (tw_ad G 9)), (1, .ref (tw_ad G q)), (2, .int (nI m))]) C N dX9_readsRest_1 rfl (by decide) rfl ?_
  refine tw_iload_n C dX9_readsRest_2 3 rfl ?_
  refine tw_iconst C dX9_readsRest_3 (v := (-1)) (by decide) ?_
  refine tw_icmp_ne C dX9_readsRest_4 (tgt := 28) (by decide) (fun c1 => ?_) (fun c1 => ?_)
  · skip
    have hbe : uBe bs s (some m) = m := rfl
    have hpl2 : 40 ≤ pk.length ∧ pk.length ≤ 48 := by split at hpl <;> omega
    show TW G X (UF B F pk) [(3, .int (nI (uBe bs s (some m)))), (0, .ref (tw_ad G 9)), (1, .ref (tw_ad G q)), (2, .int (nI m))] 28 []
    refine tw_iload_n C dX9_readsRest_28 0 rfl ?_
    refine tw_sipush C dX9_readsRest_29 (v := nI 560) (by decide) ?_
    refine tn_icmp_le C dX9_readsRest_32 (tgt := 46) (by decide) (by omega) (by omega) (fun c1 => ?_) (fun c1 => ?_)
    · skip
      refine tw_aload_n C dX9_readsRest_46 1 rfl ?_
      refine tw_getR (q := 10) (k := 1) C dX9_readsRest_47 fc_X9 sh_9 (hG 9 (by decide)) rfl (by decide) wd_64 ?_
      refine tw_iconst C dX9_readsRest_50 (v := nI 4) (by decide) ?_
      refine tw_iload_n C dX9_readsRest_51 0 rfl ?_
      refine tw_i2l C dX9_readsRest_52 (v := lN (uBe bs s (some m))) (nI_i64 (by omega)) ?_
      refine tw_iconst C dX9_readsRest_53 (v := nI 2) (by decide) ?_
      refine tw_callV (As := [.int (nI 4), .long (lN (uBe bs s (some m))), .int (nI 2)]) (rest := []) C N (e_X7_setNumber hG (S := UF B F pk) tw_row10 (xs := pk) rfl (f := 4) (v := uBe bs s (some m)) (i := 2) (by omega) (by omega) (by omega)) mm_X7_setNumber wd_415 rfl (hG 10 (by decide)) sh_10 rfl (by decide) rfl (Nat.le_of_ble_eq_true rfl) dX9_readsRest_54 ?_
      rintro _ _ rfl
      show TW G X (tw_uR (UF B F pk) 10 (setN pk 4 (be (uBe bs s (some m)) 2))) [(3, .int (nI (uBe bs s (some m)))), (0, .ref (tw_ad G 9)), (1, .ref (tw_ad G q)), (2, .int (nI m))] 57 []
      refine TW.sS (S' := UF B F (setN pk 4 (be (uBe bs s (some m)) 2))) (UF_uR _ _ _ _) ?_
      refine tw_aload_n C dX9_readsRest_57 1 rfl ?_
      refine tw_callV (As := []) (rest := []) C N (c_X9_ports hG (B := B) (F := F) (pk := setN pk 4 (be (uBe bs s (some m)) 2)) (b0 := (bs.getD s 0)) hF.2.2.2.1 (by assumption)) mm_X9_ports wd_427 rfl (hG 9 (by decide)) sh_9 rfl (by decide) rfl (Nat.le_of_ble_eq_true rfl) dX9_readsRest_58 ?_
      rintro _ _ ⟨rfl, rfl⟩
      show TW G X (UF B F (setN pk 4 (be (uBe bs s (some m)) 2))) [(3, .int (nI (uBe bs s (some m)))), (0, .ref (tw_ad G 9)), (1, .ref (tw_ad G q)), (2, .int (nI m))] 61 [.int (bI (uPo ((bs.getD s 0))))]
      refine tb_if_eq C dX9_readsRest_61 (tgt := 76) (by decide) (fun cp => ?_) (fun cp => ?_)
      · rw [if_neg (by rw [cp]; decide)] at hpl
        refine tw_aload_n C dX9_readsRest_76 1 rfl ?_
        refine tw_getR (q := 10) (k := 1) C dX9_readsRest_77 fc_X9 sh_9 (hG 9 (by decide)) rfl (by decide) wd_64 ?_
        refine tw_aload_n C dX9_readsRest_80 2 rfl ?_
        refine tw_aload_n C dX9_readsRest_81 1 rfl ?_
        refine tw_getI (v := nI (uA7 bs (bs.getD s 0) (bs.getD (s + 1) 0) s)) (k := 2) C dX9_readsRest_82 fc_X9 sh_9 (hG 9 (by decide)) rfl (by decide) wd_360 hF.1 ?_
        refine tw_aload_n C dX9_readsRest_85 2 rfl ?_
        refine tw_callV (As := []) (rest := [.int (nI (uA7 bs (bs.getD s 0) (bs.getD (s + 1) 0) s)), .ref (tw_ad G q), .ref (tw_ad G 10)]) C N (e_X7_length hG (S := UF B F (setN pk 4 (be (uBe bs s (some m)) 2))) hq (xs := bs) (UF_R hq10 hbs) ) mm_X7_length wd_380 rfl (hG _ (tw_row_lt hq).2) (tw_row_sh hq) rfl (by decide) rfl (Nat.le_of_ble_eq_true rfl) dX9_readsRest_86 ?_
        rintro _ _ ⟨rfl, rfl⟩
        show TW G X (UF B F (setN pk 4 (be (uBe bs s (some m)) 2))) [(3, .int (nI (uBe bs s (some m)))), (0, .ref (tw_ad G 9)), (1, .ref (tw_ad G q)), (2, .int (nI m))] 89 [.int (nI bs.length), .int (nI (uA7 bs (bs.getD s 0) (bs.getD (s + 1) 0) s)), .ref (tw_ad G q), .ref (tw_ad G 10)]
        refine tw_callV (As := [.ref (tw_ad G q), .int (nI (uA7 bs (bs.getD s 0) (bs.getD (s + 1) 0) s)), .int (nI bs.length)]) (rest := []) C N (e_X7_addAll hG (S := UF B F (setN pk 4 (be (uBe bs s (some m)) 2))) tw_row10 (xs := setN pk 4 (be (uBe bs s (some m)) 2)) rfl hq hq10 (ys := bs) (UF_R hq10 hbs) (a := uA7 bs (bs.getD s 0) (bs.getD (s + 1) 0) s) (e := bs.length) (by omega) (by omega)) mm_X7_addAll wd_477 rfl (hG 10 (by decide)) sh_10 rfl (by decide) rfl (Nat.le_of_ble_eq_true rfl) dX9_readsRest_89 ?_
        rintro _ _ rfl
        show TW G X (tw_uR (UF B F (setN pk 4 (be (uBe bs s (some m)) 2))) 10 (((setN pk 4 (be (uBe bs s (some m)) 2)) ++ cutD bs (uA7 bs (bs.getD s 0) (bs.getD (s + 1) 0) s) (bs.length - (uA7 bs (bs.getD s 0) (bs.getD (s + 1) 0) s))).take (tw_cap 10))) [(3, .int (nI (uBe bs s (some m)))), (0, .ref (tw_ad G 9)), (1, .ref (tw_ad G q)), (2, .int (nI m))] 92 []
        refine TW.sS (S' := UF B F (((setN pk 4 (be (uBe bs s (some m)) 2)) ++ cutD bs (uA7 bs (bs.getD s 0) (bs.getD (s + 1) 0) s) (bs.length - (uA7 bs (bs.getD s 0) (bs.getD (s + 1) 0) s))).take (tw_cap 10))) (UF_uR _ _ _ _) ?_
        refine tw_iconst C dX9_readsRest_92 (v := nI 1) (by decide) ?_
        exact tw_ireturn C Q dX9_readsRest_93 rfl rfl rfl (Or.inl ⟨by omega, rfl, by rw [if_neg (by rw [cp]; decide), List.take_of_length_le (by rw [List.length_append, cutD_len, setN_len]; show _ ≤ 600; omega)]⟩)
      · rw [if_pos cp] at hpl
        refine tw_aload_n C dX9_readsRest_64 1 rfl ?_
        refine tw_getR (q := 10) (k := 1) C dX9_readsRest_65 fc_X9 sh_9 (hG 9 (by decide)) rfl (by decide) wd_64 ?_
        refine tw_bipush C dX9_readsRest_68 (v := nI 44) (by decide) ?_
        refine tw_iload_n C dX9_readsRest_70 0 rfl ?_
        refine tw_i2l C dX9_readsRest_71 (v := lN (uBe bs s (some m))) (nI_i64 (by omega)) ?_
        refine tw_iconst C dX9_readsRest_72 (v := nI 2) (by decide) ?_
        refine tw_callV (As := [.int (nI 44), .long (lN (uBe bs s (some m))), .int (nI 2)]) (rest := []) C N (e_X7_setNumber hG (S := UF B F (setN pk 4 (be (uBe bs s (some m)) 2))) tw_row10 (xs := setN pk 4 (be (uBe bs s (some m)) 2)) rfl (f := 44) (v := uBe bs s (some m)) (i := 2) (by omega) (by omega) (by omega)) mm_X7_setNumber wd_415 rfl (hG 10 (by decide)) sh_10 rfl (by decide) rfl (Nat.le_of_ble_eq_true rfl) dX9_readsRest_73 ?_
        rintro _ _ rfl
        show TW G X (tw_uR (UF B F (setN pk 4 (be (uBe bs s (some m)) 2))) 10 (setN (setN pk 4 (be (uBe bs s (some m)) 2)) 44 (be (uBe bs s (some m)) 2))) [(3, .int (nI (uBe bs s (some m)))), (0, .ref (tw_ad G 9)), (1, .ref (tw_ad G q)), (2, .int (nI m))] 76 []
        refine TW.sS (S' := UF B F (setN (setN pk 4 (be (uBe bs s (some m)) 2)) 44 (be (uBe bs s (some m)) 2))) (UF_uR _ _ _ _) ?_
        refine tw_aload_n C dX9_readsRest_76 1 rfl ?_
        refine tw_getR (q := 10) (k := 1) C dX9_readsRest_77 fc_X9 sh_9 (hG 9 (by decide)) rfl (by decide) wd_64 ?_
        refine tw_aload_n C dX9_readsRest_80 2 rfl ?_
        refine tw_aload_n C dX9_readsRest_81 1 rfl ?_
        refine tw_getI (v := nI (uA7 bs (bs.getD s 0) (bs.getD (s + 1) 0) s)) (k := 2) C dX9_readsRest_82 fc_X9 sh_9 (hG 9 (by decide)) rfl (by decide) wd_360 hF.1 ?_
        refine tw_aload_n C dX9_readsRest_85 2 rfl ?_
        refine tw_callV (As := []) (rest := [.int (nI (uA7 bs (bs.getD s 0) (bs.getD (s + 1) 0) s)), .ref (tw_ad G q), .ref (tw_ad G 10)]) C N (e_X7_length hG (S := UF B F (setN (setN pk 4 (be (uBe bs s (some m)) 2)) 44 (be (uBe bs s (some m)) 2))) hq (xs := bs) (UF_R hq10 hbs) ) mm_X7_length wd_380 rfl (hG _ (tw_row_lt hq).2) (tw_row_sh hq) rfl (by decide) rfl (Nat.le_of_ble_eq_true rfl) dX9_readsRest_86 ?_
        rintro _ _ ⟨rfl, rfl⟩
        show TW G X (UF B F (setN (setN pk 4 (be (uBe bs s (some m)) 2)) 44 (be (uBe bs s (some m)) 2))) [(3, .int (nI (uBe bs s (some m)))), (0, .ref (tw_ad G 9)), (1, .ref (tw_ad G q)), (2, .int (nI m))] 89 [.int (nI bs.length), .int (nI (uA7 bs (bs.getD s 0) (bs.getD (s + 1) 0) s)), .ref (tw_ad G q), .ref (tw_ad G 10)]
        refine tw_callV (As := [.ref (tw_ad G q), .int (nI (uA7 bs (bs.getD s 0) (bs.getD (s + 1) 0) s)), .int (nI bs.length)]) (rest := []) C N (e_X7_addAll hG (S := UF B F (setN (setN pk 4 (be (uBe bs s (some m)) 2)) 44 (be (uBe bs s (some m)) 2))) tw_row10 (xs := setN (setN pk 4 (be (uBe bs s (some m)) 2)) 44 (be (uBe bs s (some m)) 2)) rfl hq hq10 (ys := bs) (UF_R hq10 hbs) (a := uA7 bs (bs.getD s 0) (bs.getD (s + 1) 0) s) (e := bs.length) (by omega) (by omega)) mm_X7_addAll wd_477 rfl (hG 10 (by decide)) sh_10 rfl (by decide) rfl (Nat.le_of_ble_eq_true rfl) dX9_readsRest_89 ?_
        rintro _ _ rfl
        show TW G X (tw_uR (UF B F (setN (setN pk 4 (be (uBe bs s (some m)) 2)) 44 (be (uBe bs s (some m)) 2))) 10 (((setN (setN pk 4 (be (uBe bs s (some m)) 2)) 44 (be (uBe bs s (some m)) 2)) ++ cutD bs (uA7 bs (bs.getD s 0) (bs.getD (s + 1) 0) s) (bs.length - (uA7 bs (bs.getD s 0) (bs.getD (s + 1) 0) s))).take (tw_cap 10))) [(3, .int (nI (uBe bs s (some m)))), (0, .ref (tw_ad G 9)), (1, .ref (tw_ad G q)), (2, .int (nI m))] 92 []
        refine TW.sS (S' := UF B F (((setN (setN pk 4 (be (uBe bs s (some m)) 2)) 44 (be (uBe bs s (some m)) 2)) ++ cutD bs (uA7 bs (bs.getD s 0) (bs.getD (s + 1) 0) s) (bs.length - (uA7 bs (bs.getD s 0) (bs.getD (s + 1) 0) s))).take (tw_cap 10))) (UF_uR _ _ _ _) ?_
        refine tw_iconst C dX9_readsRest_92 (v := nI 1) (by decide) ?_
        exact tw_ireturn C Q dX9_readsRest_93 rfl rfl rfl (Or.inl ⟨by omega, rfl, by rw [if_pos cp, List.take_of_length_le (by rw [List.length_append, cutD_len, setN_len, setN_len]; show _ ≤ 600; omega)]⟩)
    · skip
      refine tw_aload_n C dX9_readsRest_35 1 rfl ?_
      refine tw_bipush C dX9_readsRest_36 (v := nI 7) (by decide) ?_
      refine tw_aload_n C dX9_readsRest_38 2 rfl ?_
      refine tw_callV (As := []) (rest := [.int (nI 7), .ref (tw_ad G 9)]) C N (e_X7_length hG (S := UF B F pk) hq (xs := bs) (UF_R hq10 hbs) ) mm_X7_length wd_380 rfl (hG _ (tw_row_lt hq).2) (tw_row_sh hq) rfl (by decide) rfl (Nat.le_of_ble_eq_true rfl) dX9_readsRest_39 ?_
      rintro _ _ ⟨rfl, rfl⟩
      show TW G X (UF B F pk) [(3, .int (nI (uBe bs s (some m)))), (0, .ref (tw_ad G 9)), (1, .ref (tw_ad G q)), (2, .int (nI m))] 42 [.int (nI bs.length), .int (nI 7), .ref (tw_ad G 9)]
      refine tw_callV (As := [.int (nI 7), .int (nI bs.length)]) (rest := []) C N (c_X9_fails hG (B := B) (F := F) (pk := pk) (f := 7) (p := bs.length)) mm_X9_fails wd_381 rfl (hG 9 (by decide)) sh_9 rfl (by decide) rfl (Nat.le_of_ble_eq_true rfl) dX9_readsRest_42 ?_
      rintro _ _ ⟨rfl, rfl⟩
      show TW G X (UF B (upd (upd F 3 (nI 7)) 4 (nI bs.length)) pk) [(3, .int (nI (uBe bs s (some m)))), (0, .ref (tw_ad G 9)), (1, .ref (tw_ad G q)), (2, .int (nI m))] 45 [.int (bI false)]
      exact tw_ireturn C Q dX9_readsRest_45 rfl (bI_nar _) rfl (Or.inr ⟨by omega, rfl, fun h => absurd h (by show ¬ 7 = 0; decide), _, _, rfl, rfl, rfl⟩)
  · exact absurd c1 (fun h => absurd (nI_pos (n := m) (by omega)) (by rw [h]; decide))
