/-! a frame comes -/
theorem gD_lt {xs : List Nat} (h : ∀ x ∈ xs, x < 256) (i : Nat) : xs.getD i 0 < 256 := by
  rw [List.getD_eq_getElem?_getD]
  by_cases hi : i < xs.length
  · rw [List.getElem?_eq_getElem hi]
    exact h _ (List.getElem_mem hi)
  · rw [List.getElem?_eq_none (by omega)]
    decide
theorem uPk_ge (K : kN) (bs : List Nat) (s : Nat) (o : Option Nat) : 40 ≤ (uPk K bs s o).length ∧ (uPk K bs s o).length ≤ 48 + bs.length := by
  unfold uPk uHd
  simp only [List.length_append, be_len, uAd_len, cutD_len, List.length_cons, List.length_nil]
  split
  · simp only [List.length_append, be_len]
    omega
  · simp only [List.length_nil]
    omega
theorem HS_UF {S : tw_S} {c : Nat → cH} {F : Nat → Int32} {pk : List Nat} (h : HS S c) : HS (UF S F pk) c := HS_of h (fun i hi => ⟨tq_uR_ne _ _ (by omega), by funext j; show (if 22 + 4 * i = 9 then F j else tw_I S (22 + 4 * i) j) = _; rw [if_neg (by omega)], rfl⟩)
theorem lF_UF (S : tw_S) (F : Nat → Int32) (pk : List Nat) : lF S (UF S F pk) := ⟨fun r _ b _ => tq_uR_ne _ _ b, fun r k a _ _ => by show (if r = 9 then F k else tw_I S r k) = _; rw [if_neg a], rfl, fun _ _ => rfl, rfl⟩
abbrev lR : Type := Nat × Nat × Nat × (Nat → cH) × Option (List Nat)
def noL (c : Nat → cH) : lR := (0, 0, 0, c, none)
def partL (ck : Nat) (c : Nat → cH) (z t q : Nat) (ys : List Nat) (s : Nat) : lR :=
  if okPB z q (ys.length - s) = true then ((partP ck (fun j => dropH ck (c j)) z t q ys s).1, lateN ck c, (partP ck (fun j => dropH ck (c j)) z t q ys s).2.1, (partP ck (fun j => dropH ck (c j)) z t q ys s).2.2.1, (partP ck (fun j => dropH ck (c j)) z t q ys s).2.2.2) else noL c
def allL (K : kN) (fs : List Nat) (c : Nat → cH) : lR := if (uF K fs 0 none).1 = 0 then (2, 0, 0, c, some (uPk K fs 0 none)) else noL c
def firstL (K : kN) (fs : List Nat) (ck : Nat) (c : Nat → cH) : lR :=
  if zF fs < 40 then noL c else if (uF K fs 4 (some (zF fs - 40))).1 = 0 then partL ck c (zF fs) (tF fs) 0 (uPk K fs 4 (some (zF fs - 40))) 0 else noL c
def listenP (K : kN) (fs : List Nat) (ck : Nat) (c : Nat → cH) : lR :=
  if fs.getD 0 0 / 32 = 3 then allL K fs c
  else if fs.getD 0 0 / 8 = 24 ∧ 5 ≤ fs.length then firstL K fs ck c
  else if fs.getD 0 0 / 8 = 28 ∧ 6 ≤ fs.length then partL ck c (zF fs) (tF fs) (8 * fs.getD 4 0) fs 5
  else noL c
theorem partP_le (ck : Nat) (c : Nat → cH) (z t q : Nat) (ys : List Nat) (s : Nat) : (partP ck c z t q ys s).1 ≤ 2 := by
  unfold partP finP
  repeat' split
  all_goals simp
theorem partL_le (ck : Nat) (c : Nat → cH) (z t q : Nat) (ys : List Nat) (s : Nat) : (partL ck c z t q ys s).1 ≤ 2 := by
  unfold partL
  split
  · exact partP_le _ _ _ _ _ _ _
  · exact Nat.zero_le _
theorem allL_le (K : kN) (fs : List Nat) (c : Nat → cH) : (allL K fs c).1 ≤ 2 := by
  unfold allL noL
  split <;> simp
theorem firstL_le (K : kN) (fs : List Nat) (ck : Nat) (c : Nat → cH) : (firstL K fs ck c).1 ≤ 2 := by
  unfold firstL
  split
  · exact Nat.zero_le _
  · split
    · exact partL_le _ _ _ _ _ _ _
    · exact Nat.zero_le _
/-- what is so after it: the answer, the heaps, the counters, the packet, what stays -/
def lrP (S : tw_S) (ck la an : Nat) (R : lR) (v : Int32) (S' : tw_S) : Prop := v = nI R.1 ∧ HS S' R.2.2.2.1 ∧ tw_I S' 19 2 = nI ck ∧ tw_I S' 19 3 = tw_I S 19 3 ∧ tw_I S' 19 4 = tw_I S 19 4 ∧ tw_I S' 19 5 = nI (la + R.2.1) ∧ tw_I S' 19 6 = nI (an + R.2.2.1) ∧ tw_R S' 3 = (match R.2.2.2.2 with | some p => p.take 640 | none => tw_R S 3) ∧ lF S S'
theorem lrP_no {S0 S : tw_S} {c : Nat → cH} {ck la an : Nat} (hS : HS S c) (h2 : tw_I S 19 2 = nI ck) (h3 : tw_I S 19 3 = tw_I S0 19 3) (h4 : tw_I S 19 4 = tw_I S0 19 4) (h5 : tw_I S 19 5 = nI la) (h6 : tw_I S 19 6 = nI an) (hR : tw_R S 3 = tw_R S0 3) (hl : lF S0 S) : lrP S0 ck la an (noL c) (nI 0) S := ⟨rfl, hS, h2, h3, h4, h5, h6, hR, hl⟩
theorem lrP_part {S0 S S' : tw_S} {c : Nat → cH} {ck la an z t q s : Nat} {ys : List Nat} {v : Int32} (hS : HS S c) (h2 : tw_I S 19 2 = nI ck) (h3 : tw_I S 19 3 = tw_I S0 19 3) (h4 : tw_I S 19 4 = tw_I S0 19 4) (h5 : tw_I S 19 5 = nI la) (h6 : tw_I S 19 6 = nI an) (hR : tw_R S 3 = tw_R S0 3) (hl : lF S0 S)
    (h : if okPB z q (ys.length - s) = true then v = nI (partP ck (fun j => dropH ck (c j)) z t q ys s).1 ∧ HS S' (partP ck (fun j => dropH ck (c j)) z t q ys s).2.2.1 ∧ tw_I S' 19 2 = nI ck ∧ tw_I S' 19 3 = tw_I S 19 3 ∧ tw_I S' 19 4 = tw_I S 19 4 ∧ tw_I S' 19 5 = nI (la + lateN ck c) ∧ tw_I S' 19 6 = nI (an + (partP ck (fun j => dropH ck (c j)) z t q ys s).2.1) ∧ tw_R S' 3 = (match (partP ck (fun j => dropH ck (c j)) z t q ys s).2.2.2 with | some p => p.take 640 | none => tw_R S 3) ∧ lF S S' else v = nI 0 ∧ S = S') : lrP S0 ck la an (partL ck c z t q ys s) v S' := by
  unfold partL
  split at h
  · rename_i hk
    rw [if_pos hk]
    obtain ⟨a1, a2, a3, a4, a5, a6, a7, a8, a9⟩ := h
    exact ⟨a1, a2, a3, a4.trans h3, a5.trans h4, a6, a7, by rw [a8, hR], lF_tr hl a9⟩
  · rename_i hk
    rw [if_neg hk]
    obtain ⟨rfl, rfl⟩ := h
    exact lrP_no hS h2 h3 h4 h5 h6 hR hl
theorem c_X6_hearsAll {G : tw_G} (hG : tw_cG G) {S : tw_S} {K : kN} (hK : KN S K) {c : Nat → cH} (hS : HS S c) {ck la an : Nat} (hck0 : tw_I S 19 2 = nI ck) (hckb : ck < 2 ^ 20) (hl0 : tw_I S 19 5 = nI la) (ha0 : tw_I S 19 6 = nI an) (hnb : ∀ i, i < 3 → hNp (c i) < 2 ^ 19 ∧ hNb (c i) < 2 ^ 19) {f : Nat} (hf : tw_isRow f = true) (hf34 : 34 ≤ f) {fs : List Nat} (hfs : tw_R S f = fs) (hfb : ∀ x ∈ fs, x < 256) (hfl : fs.length ≤ 120) : tw_M G yX6_hearsAll cX6_hearsAll 3 (some .int) 5 114 [.ref (tw_ad G 19), .ref (tw_ad G f), .ref (tw_ad G 3)] S ri_I (fun v S' => lrP S ck la an (allL K fs c) v S') := by
  refine tw_M.of (L := [(0, .ref (tw_ad G 19)), (1, .ref (tw_ad G f)), (2, .ref (tw_ad G 3))]) (by decide) (Nat.le_of_ble_eq_true rfl) rfl (fun X C N Q => ?_)
  have C : tw_C G X cX6_hearsAll RX6 := C
  refine TW.sS (S' := UF S (tw_I S 9) (tw_R S 10)) (UF_self S) ?_
  refine tw_aload_n C dX6_hearsAll_0 0 rfl ?_
  refine tw_getR (q := 9) (k := 0) C dX6_hearsAll_1 fc_X6 sh_19 (hG 19 (by decide)) rfl (by decide) wd_96 ?_
  refine tw_aload_n C dX6_hearsAll_4 1 rfl ?_
  refine tw_iconst C dX6_hearsAll_5 (v := nI 0) (by decide) ?_
  refine tw_iconst C dX6_hearsAll_6 (v := (-1)) (by decide) ?_
  refine tw_callV (As := [.ref (tw_ad G f), .int (nI 0), .int ((-1))]) (rest := []) C N (c_X9_read0 hG (B := S) (F := tw_I S 9) (pk := tw_R S 10) hf (by omega) (bs := fs) hfs hfb (by omega) hK (s := 0) (by decide) (by omega)) mm_X9_read wd_356 rfl (hG 9 (by decide)) sh_9 rfl (by decide) rfl (Nat.le_of_ble_eq_true rfl) dX6_hearsAll_7 ?_
  rintro _ _ (⟨hu, rfl, F1, rfl, hk1, hk9⟩ | ⟨hu, rfl, hne, F1, p1, rfl, hk3, hk4⟩)
  · show TW G X (UF S F1 (uPk K fs 0 none)) [(0, .ref (tw_ad G 19)), (1, .ref (tw_ad G f)), (2, .ref (tw_ad G 3))] 10 [.int (bI true)]
    refine tb_if_ne C dX6_hearsAll_10 (tgt := 15) (by decide) (fun c2 => ?_) (fun c2 => ?_)
    · skip
      refine tw_aload_n C dX6_hearsAll_15 2 rfl ?_
      refine tw_aload_n C dX6_hearsAll_16 0 rfl ?_
      refine tw_getR (q := 9) (k := 0) C dX6_hearsAll_17 fc_X6 sh_19 (hG 19 (by decide)) rfl (by decide) wd_96 ?_
      refine tw_callV (As := []) (rest := [.ref (tw_ad G 3)]) C N (c_X9_packet hG (B := S) (F := F1) (pk := (uPk K fs 0 none))) mm_X9_packet wd_478 rfl (hG 9 (by decide)) sh_9 rfl (by decide) rfl (Nat.le_of_ble_eq_true rfl) dX6_hearsAll_20 ?_
      rintro _ _ ⟨rfl, rfl⟩
      show TW G X (UF S F1 (uPk K fs 0 none)) [(0, .ref (tw_ad G 19)), (1, .ref (tw_ad G f)), (2, .ref (tw_ad G 3))] 23 [.ref (tw_ad G 10), .ref (tw_ad G 3)]
      refine tw_callV (As := [.ref (tw_ad G 10)]) (rest := []) C N (e_X7_become hG (S := UF S F1 (uPk K fs 0 none)) tw_row3 tw_row10 (by decide) (ys := uPk K fs 0 none) rfl) mm_X7_become wd_482 rfl (hG 3 (by decide)) sh_3 rfl (by decide) rfl (Nat.le_of_ble_eq_true rfl) dX6_hearsAll_23 ?_
      rintro _ _ rfl
      show TW G X (tw_uR (UF S F1 (uPk K fs 0 none)) 3 ((uPk K fs 0 none).take (tw_cap 3))) [(0, .ref (tw_ad G 19)), (1, .ref (tw_ad G f)), (2, .ref (tw_ad G 3))] 26 []
      refine tw_iconst C dX6_hearsAll_26 (v := nI 2) (by decide) ?_
      exact tw_ireturn C Q dX6_hearsAll_27 rfl rfl rfl (by rw [allL, if_pos hu]; exact ⟨rfl, HS_uR (HS_UF hS) (by decide), hck0, rfl, rfl, hl0, ha0, rfl, lF_uR (Or.inl rfl) (lF_UF S _ _)⟩)
    · exact absurd c2 (by decide)
  · show TW G X (UF S F1 p1) [(0, .ref (tw_ad G 19)), (1, .ref (tw_ad G f)), (2, .ref (tw_ad G 3))] 10 [.int (bI false)]
    refine tb_if_ne C dX6_hearsAll_10 (tgt := 15) (by decide) (fun c5 => ?_) (fun c5 => ?_)
    · exact absurd c5 (by decide)
    refine tw_iconst C dX6_hearsAll_13 (v := nI 0) (by decide) ?_
    exact tw_ireturn C Q dX6_hearsAll_14 rfl rfl rfl (by rw [allL, if_neg hu]; exact lrP_no (HS_UF hS) hck0 rfl rfl hl0 ha0 rfl (lF_UF S _ _))
theorem c_X6_hearsFirst {G : tw_G} (hG : tw_cG G) {S : tw_S} {K : kN} (hK : KN S K) {c : Nat → cH} (hS : HS S c) {ck la an : Nat} (hck0 : tw_I S 19 2 = nI ck) (hckb : ck < 2 ^ 20) (hl0 : tw_I S 19 5 = nI la) (ha0 : tw_I S 19 6 = nI an) (hnb : ∀ i, i < 3 → hNp (c i) < 2 ^ 19 ∧ hNb (c i) < 2 ^ 19) {f : Nat} (hf : tw_isRow f = true) (hf34 : 34 ≤ f) {fs : List Nat} (hfs : tw_R S f = fs) (hfb : ∀ x ∈ fs, x < 256) (hfl : fs.length ≤ 120) (hfl5 : 5 ≤ fs.length) : tw_M G yX6_hearsFirst cX6_hearsFirst 4 (some .int) 5 114 [.ref (tw_ad G 19), .ref (tw_ad G f), .ref (tw_ad G 3)] S ri_I (fun v S' => lrP S ck la an (firstL K fs ck c) v S') := by
  refine tw_M.of (L := [(0, .ref (tw_ad G 19)), (1, .ref (tw_ad G f)), (2, .ref (tw_ad G 3))]) (by decide) (Nat.le_of_ble_eq_true rfl) rfl (fun X C N Q => ?_)
  have C : tw_C G X cX6_hearsFirst RX6 := C
  have hz1 : zF fs < 2048 := Nat.mod_lt _ (by decide)
  refine TW.sS (S' := UF S (tw_I S 9) (tw_R S 10)) (UF_self S) ?_
  refine tw_aload_n C dX6_hearsFirst_0 1 rfl ?_
  refine tw_callS (As := [.ref (tw_ad G f)]) (rest := []) C N (c_X6_zOf hG (S := UF S (tw_I S 9) (tw_R S 10)) hf (fs := fs) (UF_R (by omega) hfs)) mm_X6_zOf wd_488 rfl (by decide) rfl (Nat.le_of_ble_eq_true rfl) dX6_hearsFirst_1 ?_
  rintro _ _ ⟨rfl, rfl⟩
  show TW G X (UF S (tw_I S 9) (tw_R S 10)) [(0, .ref (tw_ad G 19)), (1, .ref (tw_ad G f)), (2, .ref (tw_ad G 3))] 4 [.int (nI (zF fs))]
  refine tw_istore_n (L' := [(3, .int (nI (zF fs))), (0, .ref (tw_ad G 19)), (1, .ref (tw_ad G f)), (2, .ref (tw_ad G 3))]) C N dX6_hearsFirst_4 rfl (by decide) rfl ?_
  refine tw_iload_n C dX6_hearsFirst_5 0 rfl ?_
  refine tw_bipush C dX6_hearsFirst_6 (v := nI 40) (by decide) ?_
  refine tn_icmp_lt C dX6_hearsFirst_8 (tgt := 27) (by decide) (by omega) (by omega) (fun c2 => ?_) (fun c2 => ?_)
  · skip
    refine tw_iconst C dX6_hearsFirst_27 (v := nI 0) (by decide) ?_
    exact tw_ireturn C Q dX6_hearsFirst_28 rfl rfl rfl (by rw [firstL, if_pos (by omega)]; exact lrP_no (HS_UF hS) hck0 rfl rfl hl0 ha0 rfl (lF_UF S _ _))
  · skip
    refine tw_aload_n C dX6_hearsFirst_11 1 rfl ?_
    refine tw_getR (q := 9) (k := 0) C dX6_hearsFirst_12 fc_X6 sh_19 (hG 19 (by decide)) rfl (by decide) wd_96 ?_
    refine tw_aload_n C dX6_hearsFirst_15 2 rfl ?_
    refine tw_iconst C dX6_hearsFirst_16 (v := nI 4) (by decide) ?_
    refine tw_iload_n C dX6_hearsFirst_17 0 rfl ?_
    refine tw_bipush C dX6_hearsFirst_18 (v := nI 40) (by decide) ?_
    refine tw_isub C dX6_hearsFirst_20 (v := nI ((zF fs) - 40)) (pk_sub (by omega)) ?_
    refine tw_callV (As := [.ref (tw_ad G f), .int (nI 4), .int (nI ((zF fs) - 40))]) (rest := []) C N (c_X9_read1 hG (B := S) (F := tw_I S 9) (pk := tw_R S 10) hf (by omega) (bs := fs) hfs hfb (by omega) hK (m := zF fs - 40) (by omega) (by omega) (s := 4) (by decide) (by omega)) mm_X9_read wd_356 rfl (hG 9 (by decide)) sh_9 rfl (by decide) rfl (Nat.le_of_ble_eq_true rfl) dX6_hearsFirst_21 ?_
    rintro _ _ (⟨hu, rfl, F1, rfl, hk1, hk9⟩ | ⟨hu, rfl, hne, F1, p1, rfl, hk3, hk4⟩)
    · show TW G X (UF S F1 (uPk K fs 4 (some (zF fs - 40)))) [(3, .int (nI (zF fs))), (0, .ref (tw_ad G 19)), (1, .ref (tw_ad G f)), (2, .ref (tw_ad G 3))] 24 [.int (bI true)]
      refine tb_if_ne C dX6_hearsFirst_24 (tgt := 29) (by decide) (fun c4 => ?_) (fun c4 => ?_)
      · skip
        refine tw_aload_n C dX6_hearsFirst_29 1 rfl ?_
        refine tw_aload_n C dX6_hearsFirst_30 2 rfl ?_
        refine tw_iconst C dX6_hearsFirst_31 (v := nI 0) (by decide) ?_
        refine tw_aload_n C dX6_hearsFirst_32 1 rfl ?_
        refine tw_getR (q := 9) (k := 0) C dX6_hearsFirst_33 fc_X6 sh_19 (hG 19 (by decide)) rfl (by decide) wd_96 ?_
        refine tw_callV (As := []) (rest := [.int (nI 0), .ref (tw_ad G f), .ref (tw_ad G 19)]) C N (c_X9_packet hG (B := S) (F := F1) (pk := (uPk K fs 4 (some (zF fs - 40))))) mm_X9_packet wd_478 rfl (hG 9 (by decide)) sh_9 rfl (by decide) rfl (Nat.le_of_ble_eq_true rfl) dX6_hearsFirst_36 ?_
        rintro _ _ ⟨rfl, rfl⟩
        show TW G X (UF S F1 (uPk K fs 4 (some (zF fs - 40)))) [(3, .int (nI (zF fs))), (0, .ref (tw_ad G 19)), (1, .ref (tw_ad G f)), (2, .ref (tw_ad G 3))] 39 [.ref (tw_ad G 10), .int (nI 0), .ref (tw_ad G f), .ref (tw_ad G 19)]
        refine tw_iconst C dX6_hearsFirst_39 (v := nI 0) (by decide) ?_
        refine tw_aload_n C dX6_hearsFirst_40 3 rfl ?_
        refine tw_callV (As := [.ref (tw_ad G f), .int (nI 0), .ref (tw_ad G 10), .int (nI 0), .ref (tw_ad G 3)]) (rest := []) C N (c_X6_hearsPart hG (S := UF S F1 (uPk K fs 4 (some (zF fs - 40)))) (HS_UF hS) hck0 hckb hl0 ha0 hnb hf (UF_R (by omega) hfs) hfb tw_row10 (by decide) (ys := uPk K fs 4 (some (zF fs - 40))) rfl (by have := uPk_ge K fs 4 (some (zF fs - 40)); omega) (q := 0) (s := 0) (by decide) (by have := uPk_ge K fs 4 (some (zF fs - 40)); omega)) mm_X6_hearsPart wd_492 rfl (hG 19 (by decide)) sh_19 rfl (by decide) rfl (Nat.le_of_ble_eq_true rfl) dX6_hearsFirst_41 ?_
        rintro v S2 hp0
        show TW G X S2 [(3, .int (nI (zF fs))), (0, .ref (tw_ad G 19)), (1, .ref (tw_ad G f)), (2, .ref (tw_ad G 3))] 44 [.int v]
        have hr := lrP_part (S0 := S) (HS_UF (F := F1) (pk := uPk K fs 4 (some (zF fs - 40))) hS) hck0 rfl rfl hl0 ha0 rfl (lF_UF S _ _) hp0
        exact tw_ireturn C Q dX6_hearsFirst_44 rfl rfl rfl (by rw [firstL, if_neg (by omega), if_pos hu]; exact hr)
      · exact absurd c4 (by decide)
    · show TW G X (UF S F1 p1) [(3, .int (nI (zF fs))), (0, .ref (tw_ad G 19)), (1, .ref (tw_ad G f)), (2, .ref (tw_ad G 3))] 24 [.int (bI false)]
      refine tb_if_ne C dX6_hearsFirst_24 (tgt := 29) (by decide) (fun c7 => ?_) (fun c7 => ?_)
      · exact absurd c7 (by decide)
      refine tw_iconst C dX6_hearsFirst_27 (v := nI 0) (by decide) ?_
      exact tw_ireturn C Q dX6_hearsFirst_28 rfl rfl rfl (by rw [firstL, if_neg (by omega), if_neg hu]; exact lrP_no (HS_UF hS) hck0 rfl rfl hl0 ha0 rfl (lF_UF S _ _))
def lsP (S : tw_S) (ck la an wh dr : Nat) (R : lR) (v : Int32) (S' : tw_S) : Prop := v = nI R.1 ∧ HS S' R.2.2.2.1 ∧ tw_I S' 19 2 = nI ck ∧ tw_I S' 19 3 = nI (wh + (if R.1 = 2 then 1 else 0)) ∧ tw_I S' 19 4 = nI (dr + (if R.1 = 0 then 1 else 0)) ∧ tw_I S' 19 5 = nI (la + R.2.1) ∧ tw_I S' 19 6 = nI (an + R.2.2.1) ∧ tw_R S' 3 = (match R.2.2.2.2 with | some p => p.take 640 | none => tw_R S 3) ∧ lF S S'
theorem c_X6_listen {G : tw_G} (hG : tw_cG G) {S : tw_S} {K : kN} (hK : KN S K) {c : Nat → cH} (hS : HS S c) {ck la an : Nat} (hck0 : tw_I S 19 2 = nI ck) (hckb : ck < 2 ^ 20) (hl0 : tw_I S 19 5 = nI la) (ha0 : tw_I S 19 6 = nI an) (hnb : ∀ i, i < 3 → hNp (c i) < 2 ^ 19 ∧ hNb (c i) < 2 ^ 19) {f : Nat} (hf : tw_isRow f = true) (hf34 : 34 ≤ f) {fs : List Nat} (hfs : tw_R S f = fs) (hfb : ∀ x ∈ fs, x < 256) (hfl : fs.length ≤ 120) {wh dr : Nat} (hwh : tw_I S 19 3 = nI wh) (hdr : tw_I S 19 4 = nI dr) : tw_M G yX6_listen cX6_listen 5 (some .int) 6 137 [.ref (tw_ad G 19), .ref (tw_ad G f), .ref (tw_ad G 3)] S ri_I (fun v S' => lsP S ck la an wh dr (listenP K fs ck c) v S') := by
  refine tw_M.of (L := [(0, .ref (tw_ad G 19)), (1, .ref (tw_ad G f)), (2, .ref (tw_ad G 3))]) (by decide) (Nat.le_of_ble_eq_true rfl) rfl (fun X C N Q => ?_)
  have C : tw_C G X cX6_listen RX6 := C
  have tail : ∀ (R : lR) (S2 : tw_S) (_ : listenP K fs ck c = R) (_ : R.1 ≤ 2) (_ : lrP S ck la an R (nI R.1) S2), TW G X S2 [(3, .int (nI R.1)), (4, .int (nI (fs.getD 0 0))), (0, .ref (tw_ad G 19)), (1, .ref (tw_ad G f)), (2, .ref (tw_ad G 3))] 89 [] := by
    intro R S2 hR hR2 hr
    refine tw_iload_n C dX6_listen_89 0 rfl ?_
    refine tw_iconst C dX6_listen_90 (v := nI 2) (by decide) ?_
    refine tn_icmp_ne C dX6_listen_91 (tgt := 107) (by decide) (by omega) (by omega) (fun c1 => ?_) (fun c1 => ?_)
    · skip
      refine tw_iload_n C dX6_listen_107 0 rfl ?_
      refine tn_if_ne C dX6_listen_108 (tgt := 121) (by decide) (by omega) (fun c2 => ?_) (fun c2 => ?_)
      · skip
        refine tw_iload_n C dX6_listen_121 0 rfl ?_
        exact tw_ireturn C Q dX6_listen_122 rfl rfl rfl (by obtain ⟨a1, a2, a3, a4, a5, a6, a7, a8, a9⟩ := hr; rw [hR]; exact ⟨rfl, a2, a3, by rw [if_neg (by omega)]; exact a4.trans hwh, by rw [if_neg (by omega)]; exact a5.trans hdr, a6, a7, a8, a9⟩)
      · skip
        refine tw_aload_n C dX6_listen_111 2 rfl ?_
        refine tw_dup C dX6_listen_112 rfl ?_
        refine tw_getI (v := nI dr) (k := 4) C dX6_listen_113 fc_X6 sh_19 (hG 19 (by decide)) rfl (by decide) wd_350 (hr.2.2.2.2.1.trans hdr) ?_
        refine tw_iconst C dX6_listen_116 (v := nI 1) (by decide) ?_
        refine tw_iadd C dX6_listen_117 (v := nI (dr + 1)) (nI_add _ _) ?_
        refine tw_putI (k := 4) C dX6_listen_118 fc_X6 sh_19 (hG 19 (by decide)) rfl (by decide) rfl wd_350 rfl rfl ?_
        refine tw_iload_n C dX6_listen_121 0 rfl ?_
        exact tw_ireturn C Q dX6_listen_122 rfl rfl rfl (by obtain ⟨a1, a2, a3, a4, a5, a6, a7, a8, a9⟩ := hr; rw [hR]; exact ⟨rfl, HS_19 a2, a3, by rw [if_neg (by omega)]; exact a4.trans hwh, by rw [if_pos (by omega)]; rfl, a6, a7, a8, lF_19 a9⟩)
    · skip
      refine tw_aload_n C dX6_listen_94 2 rfl ?_
      refine tw_dup C dX6_listen_95 rfl ?_
      refine tw_getI (v := nI wh) (k := 3) C dX6_listen_96 fc_X6 sh_19 (hG 19 (by decide)) rfl (by decide) wd_349 (hr.2.2.2.1.trans hwh) ?_
      refine tw_iconst C dX6_listen_99 (v := nI 1) (by decide) ?_
      refine tw_iadd C dX6_listen_100 (v := nI (wh + 1)) (nI_add _ _) ?_
      refine tw_putI (k := 3) C dX6_listen_101 fc_X6 sh_19 (hG 19 (by decide)) rfl (by decide) rfl wd_349 rfl rfl ?_
      refine tw_goto C dX6_listen_104 (tgt := 121) (by decide) ?_
      refine tw_iload_n C dX6_listen_121 0 rfl ?_
      exact tw_ireturn C Q dX6_listen_122 rfl rfl rfl (by obtain ⟨a1, a2, a3, a4, a5, a6, a7, a8, a9⟩ := hr; rw [hR]; exact ⟨rfl, HS_19 a2, a3, by rw [if_pos (by omega)]; rfl, by rw [if_neg (by omega)]; exact a5.trans hdr, a6, a7, a8, lF_19 a9⟩)
  have hb0 : fs.getD 0 0 < 256 := gD_lt hfb 0
  have hb4 : fs.getD 4 0 < 256 := gD_lt hfb 4
  refine tw_iconst C dX6_listen_0 (v := nI 0) (by decide) ?_
  refine tw_istore_n (L' := [(3, .int (nI 0)), (0, .ref (tw_ad G 19)), (1, .ref (tw_ad G f)), (2, .ref (tw_ad G 3))]) C N dX6_listen_1 rfl (by decide) rfl ?_
  refine tw_aload_n C dX6_listen_2 2 rfl ?_
  refine tw_iconst C dX6_listen_3 (v := nI 0) (by decide) ?_
  refine tw_callV (As := [.int (nI 0)]) (rest := []) C N (e_X7_at hG (S := S) hf (xs := fs) hfs (i := 0) (by omega)) mm_X7_at wd_351 rfl (hG _ (tw_row_lt hf).2) (tw_row_sh hf) rfl (by decide) rfl (Nat.le_of_ble_eq_true rfl) dX6_listen_4 ?_
  rintro _ _ ⟨rfl, rfl⟩
  show TW G X S [(3, .int (nI 0)), (0, .ref (tw_ad G 19)), (1, .ref (tw_ad G f)), (2, .ref (tw_ad G 3))] 7 [.int (nI (fs.getD 0 0))]
  refine tw_istore (L' := [(4, .int (nI (fs.getD 0 0))), (3, .int (nI 0)), (0, .ref (tw_ad G 19)), (1, .ref (tw_ad G f)), (2, .ref (tw_ad G 3))]) C N dX6_listen_7 (i := 4) (by decide) rfl ?_
  refine tw_iload C dX6_listen_9 0 rfl ?_
  refine tw_iconst C dX6_listen_11 (v := nI 5) (by decide) ?_
  refine tw_ishr C dX6_listen_12 (v := nI ((fs.getD 0 0) / 32)) (nI_shr (by omega) 5 (by decide)) ?_
  refine tw_iconst C dX6_listen_13 (v := nI 3) (by decide) ?_
  refine tn_icmp_ne C dX6_listen_14 (tgt := 27) (by decide) (by omega) (by omega) (fun c2 => ?_) (fun c2 => ?_)
  · skip
    refine tw_iload C dX6_listen_27 0 rfl ?_
    refine tw_iconst C dX6_listen_29 (v := nI 3) (by decide) ?_
    refine tw_ishr C dX6_listen_30 (v := nI ((fs.getD 0 0) / 8)) (nI_shr (by omega) 3 (by decide)) ?_
    refine tw_bipush C dX6_listen_31 (v := nI 24) (by decide) ?_
    refine tn_icmp_ne C dX6_listen_33 (tgt := 54) (by decide) (by omega) (by omega) (fun c3 => ?_) (fun c3 => ?_)
    · skip
      refine tw_iload C dX6_listen_54 0 rfl ?_
      refine tw_iconst C dX6_listen_56 (v := nI 3) (by decide) ?_
      refine tw_ishr C dX6_listen_57 (v := nI ((fs.getD 0 0) / 8)) (nI_shr (by omega) 3 (by decide)) ?_
      refine tw_bipush C dX6_listen_58 (v := nI 28) (by decide) ?_
      refine tn_icmp_ne C dX6_listen_60 (tgt := 89) (by decide) (by omega) (by omega) (fun c4 => ?_) (fun c4 => ?_)
      · skip
        refine TW.c (L' := [(3, .int (nI ((noL c).1))), (4, .int (nI (fs.getD 0 0))), (0, .ref (tw_ad G 19)), (1, .ref (tw_ad G f)), (2, .ref (tw_ad G 3))]) (by simp [noL]) ?_
        exact tail (noL c) S (by unfold listenP; rw [if_neg (by omega), if_neg (by omega), if_neg (by omega)]) (Nat.zero_le _) (lrP_no hS hck0 rfl rfl hl0 ha0 rfl (lF_rf S))
      · skip
        refine tw_aload_n C dX6_listen_63 3 rfl ?_
        refine tw_callV (As := []) (rest := []) C N (e_X7_length hG (S := S) hf (xs := fs) hfs ) mm_X7_length wd_483 rfl (hG _ (tw_row_lt hf).2) (tw_row_sh hf) rfl (by decide) rfl (Nat.le_of_ble_eq_true rfl) dX6_listen_64 ?_
        rintro _ _ ⟨rfl, rfl⟩
        show TW G X S [(4, .int (nI (fs.getD 0 0))), (3, .int (nI 0)), (0, .ref (tw_ad G 19)), (1, .ref (tw_ad G f)), (2, .ref (tw_ad G 3))] 67 [.int (nI fs.length)]
        refine tw_bipush C dX6_listen_67 (v := nI 6) (by decide) ?_
        refine tn_icmp_lt C dX6_listen_69 (tgt := 89) (by decide) (by omega) (by omega) (fun c6 => ?_) (fun c6 => ?_)
        · skip
          refine TW.c (L' := [(3, .int (nI ((noL c).1))), (4, .int (nI (fs.getD 0 0))), (0, .ref (tw_ad G 19)), (1, .ref (tw_ad G f)), (2, .ref (tw_ad G 3))]) (by simp [noL]) ?_
          exact tail (noL c) S (by unfold listenP; rw [if_neg (by omega), if_neg (by omega), if_neg (by omega)]) (Nat.zero_le _) (lrP_no hS hck0 rfl rfl hl0 ha0 rfl (lF_rf S))
        · skip
          refine tw_aload_n C dX6_listen_72 2 rfl ?_
          refine tw_aload_n C dX6_listen_73 3 rfl ?_
          refine tw_bipush C dX6_listen_74 (v := nI 8) (by decide) ?_
          refine tw_aload_n C dX6_listen_76 3 rfl ?_
          refine tw_iconst C dX6_listen_77 (v := nI 4) (by decide) ?_
          refine tw_callV (As := [.int (nI 4)]) (rest := [.int (nI 8), .ref (tw_ad G f), .ref (tw_ad G 19)]) C N (e_X7_at hG (S := S) hf (xs := fs) hfs (i := 4) (by omega)) mm_X7_at wd_351 rfl (hG _ (tw_row_lt hf).2) (tw_row_sh hf) rfl (by decide) rfl (Nat.le_of_ble_eq_true rfl) dX6_listen_78 ?_
          rintro _ _ ⟨rfl, rfl⟩
          show TW G X S [(4, .int (nI (fs.getD 0 0))), (3, .int (nI 0)), (0, .ref (tw_ad G 19)), (1, .ref (tw_ad G f)), (2, .ref (tw_ad G 3))] 81 [.int (nI (fs.getD 4 0)), .int (nI 8), .ref (tw_ad G f), .ref (tw_ad G 19)]
          refine tw_imul C dX6_listen_81 (v := nI (8 * (fs.getD 4 0))) (pk_mul _ _) ?_
          refine tw_aload_n C dX6_listen_82 3 rfl ?_
          refine tw_iconst C dX6_listen_83 (v := nI 5) (by decide) ?_
          refine tw_aload_n C dX6_listen_84 4 rfl ?_
          refine tw_callV (As := [.ref (tw_ad G f), .int (nI (8 * (fs.getD 4 0))), .ref (tw_ad G f), .int (nI 5), .ref (tw_ad G 3)]) (rest := []) C N (c_X6_hearsPart hG (S := S) hS hck0 hckb hl0 ha0 hnb hf hfs hfb hf (Or.inr hf34) (ys := fs) hfs (by omega) (q := 8 * fs.getD 4 0) (s := 5) (by omega) (by omega)) mm_X6_hearsPart wd_492 rfl (hG 19 (by decide)) sh_19 rfl (by decide) rfl (Nat.le_of_ble_eq_true rfl) dX6_listen_85 ?_
          rintro v S2 hp0
          show TW G X S2 [(4, .int (nI (fs.getD 0 0))), (3, .int (nI 0)), (0, .ref (tw_ad G 19)), (1, .ref (tw_ad G f)), (2, .ref (tw_ad G 3))] 88 [.int v]
          have hr := lrP_part (S0 := S) hS hck0 rfl rfl hl0 ha0 rfl (lF_rf S) hp0
          refine tw_istore_n (L' := [(3, .int v), (4, .int (nI (fs.getD 0 0))), (0, .ref (tw_ad G 19)), (1, .ref (tw_ad G f)), (2, .ref (tw_ad G 3))]) C N dX6_listen_88 rfl (by decide) rfl ?_
          have hv := hr.1
          subst hv
          refine TW.c (L' := [(3, .int (nI ((partL ck c (zF fs) (tF fs) (8 * fs.getD 4 0) fs 5).1))), (4, .int (nI (fs.getD 0 0))), (0, .ref (tw_ad G 19)), (1, .ref (tw_ad G f)), (2, .ref (tw_ad G 3))]) (by simp) ?_
          exact tail (partL ck c (zF fs) (tF fs) (8 * fs.getD 4 0) fs 5) S2 (by unfold listenP; rw [if_neg (by omega), if_neg (by omega), if_pos (by omega)]) (partL_le _ _ _ _ _ _ _) hr
    · skip
      refine tw_aload_n C dX6_listen_36 3 rfl ?_
      refine tw_callV (As := []) (rest := []) C N (e_X7_length hG (S := S) hf (xs := fs) hfs ) mm_X7_length wd_483 rfl (hG _ (tw_row_lt hf).2) (tw_row_sh hf) rfl (by decide) rfl (Nat.le_of_ble_eq_true rfl) dX6_listen_37 ?_
      rintro _ _ ⟨rfl, rfl⟩
      show TW G X S [(4, .int (nI (fs.getD 0 0))), (3, .int (nI 0)), (0, .ref (tw_ad G 19)), (1, .ref (tw_ad G f)), (2, .ref (tw_ad G 3))] 40 [.int (nI fs.length)]
      refine tw_iconst C dX6_listen_40 (v := nI 5) (by decide) ?_
      refine tn_icmp_lt C dX6_listen_41 (tgt := 54) (by decide) (by omega) (by omega) (fun c10 => ?_) (fun c10 => ?_)
      · skip
        refine tw_iload C dX6_listen_54 0 rfl ?_
        refine tw_iconst C dX6_listen_56 (v := nI 3) (by decide) ?_
        refine tw_ishr C dX6_listen_57 (v := nI ((fs.getD 0 0) / 8)) (nI_shr (by omega) 3 (by decide)) ?_
        refine tw_bipush C dX6_listen_58 (v := nI 28) (by decide) ?_
        refine tn_icmp_ne C dX6_listen_60 (tgt := 89) (by decide) (by omega) (by omega) (fun c11 => ?_) (fun c11 => ?_)
        · skip
          refine TW.c (L' := [(3, .int (nI ((noL c).1))), (4, .int (nI (fs.getD 0 0))), (0, .ref (tw_ad G 19)), (1, .ref (tw_ad G f)), (2, .ref (tw_ad G 3))]) (by simp [noL]) ?_
          exact tail (noL c) S (by unfold listenP; rw [if_neg (by omega), if_neg (by omega), if_neg (by omega)]) (Nat.zero_le _) (lrP_no hS hck0 rfl rfl hl0 ha0 rfl (lF_rf S))
        · skip
          refine tw_aload_n C dX6_listen_63 3 rfl ?_
          refine tw_callV (As := []) (rest := []) C N (e_X7_length hG (S := S) hf (xs := fs) hfs ) mm_X7_length wd_483 rfl (hG _ (tw_row_lt hf).2) (tw_row_sh hf) rfl (by decide) rfl (Nat.le_of_ble_eq_true rfl) dX6_listen_64 ?_
          rintro _ _ ⟨rfl, rfl⟩
          show TW G X S [(4, .int (nI (fs.getD 0 0))), (3, .int (nI 0)), (0, .ref (tw_ad G 19)), (1, .ref (tw_ad G f)), (2, .ref (tw_ad G 3))] 67 [.int (nI fs.length)]
          refine tw_bipush C dX6_listen_67 (v := nI 6) (by decide) ?_
          refine tn_icmp_lt C dX6_listen_69 (tgt := 89) (by decide) (by omega) (by omega) (fun c13 => ?_) (fun c13 => ?_)
          · skip
            refine TW.c (L' := [(3, .int (nI ((noL c).1))), (4, .int (nI (fs.getD 0 0))), (0, .ref (tw_ad G 19)), (1, .ref (tw_ad G f)), (2, .ref (tw_ad G 3))]) (by simp [noL]) ?_
            exact tail (noL c) S (by unfold listenP; rw [if_neg (by omega), if_neg (by omega), if_neg (by omega)]) (Nat.zero_le _) (lrP_no hS hck0 rfl rfl hl0 ha0 rfl (lF_rf S))
          · skip
            refine tw_aload_n C dX6_listen_72 2 rfl ?_
            refine tw_aload_n C dX6_listen_73 3 rfl ?_
            refine tw_bipush C dX6_listen_74 (v := nI 8) (by decide) ?_
            refine tw_aload_n C dX6_listen_76 3 rfl ?_
            refine tw_iconst C dX6_listen_77 (v := nI 4) (by decide) ?_
            refine tw_callV (As := [.int (nI 4)]) (rest := [.int (nI 8), .ref (tw_ad G f), .ref (tw_ad G 19)]) C N (e_X7_at hG (S := S) hf (xs := fs) hfs (i := 4) (by omega)) mm_X7_at wd_351 rfl (hG _ (tw_row_lt hf).2) (tw_row_sh hf) rfl (by decide) rfl (Nat.le_of_ble_eq_true rfl) dX6_listen_78 ?_
            rintro _ _ ⟨rfl, rfl⟩
            show TW G X S [(4, .int (nI (fs.getD 0 0))), (3, .int (nI 0)), (0, .ref (tw_ad G 19)), (1, .ref (tw_ad G f)), (2, .ref (tw_ad G 3))] 81 [.int (nI (fs.getD 4 0)), .int (nI 8), .ref (tw_ad G f), .ref (tw_ad G 19)]
            refine tw_imul C dX6_listen_81 (v := nI (8 * (fs.getD 4 0))) (pk_mul _ _) ?_
            refine tw_aload_n C dX6_listen_82 3 rfl ?_
            refine tw_iconst C dX6_listen_83 (v := nI 5) (by decide) ?_
            refine tw_aload_n C dX6_listen_84 4 rfl ?_
            refine tw_callV (As := [.ref (tw_ad G f), .int (nI (8 * (fs.getD 4 0))), .ref (tw_ad G f), .int (nI 5), .ref (tw_ad G 3)]) (rest := []) C N (c_X6_hearsPart hG (S := S) hS hck0 hckb hl0 ha0 hnb hf hfs hfb hf (Or.inr hf34) (ys := fs) hfs (by omega) (q := 8 * fs.getD 4 0) (s := 5) (by omega) (by omega)) mm_X6_hearsPart wd_492 rfl (hG 19 (by decide)) sh_19 rfl (by decide) rfl (Nat.le_of_ble_eq_true rfl) dX6_listen_85 ?_
            rintro v S2 hp0
            show TW G X S2 [(4, .int (nI (fs.getD 0 0))), (3, .int (nI 0)), (0, .ref (tw_ad G 19)), (1, .ref (tw_ad G f)), (2, .ref (tw_ad G 3))] 88 [.int v]
            have hr := lrP_part (S0 := S) hS hck0 rfl rfl hl0 ha0 rfl (lF_rf S) hp0
            refine tw_istore_n (L' := [(3, .int v), (4, .int (nI (fs.getD 0 0))), (0, .ref (tw_ad G 19)), (1, .ref (tw_ad G f)), (2, .ref (tw_ad G 3))]) C N dX6_listen_88 rfl (by decide) rfl ?_
            have hv := hr.1
            subst hv
            refine TW.c (L' := [(3, .int (nI ((partL ck c (zF fs) (tF fs) (8 * fs.getD 4 0) fs 5).1))), (4, .int (nI (fs.getD 0 0))), (0, .ref (tw_ad G 19)), (1, .ref (tw_ad G f)), (2, .ref (tw_ad G 3))]) (by simp) ?_
            exact tail (partL ck c (zF fs) (tF fs) (8 * fs.getD 4 0) fs 5) S2 (by unfold listenP; rw [if_neg (by omega), if_neg (by omega), if_pos (by omega)]) (partL_le _ _ _ _ _ _ _) hr
      · skip
        refine tw_aload_n C dX6_listen_44 2 rfl ?_
        refine tw_aload_n C dX6_listen_45 3 rfl ?_
        refine tw_aload_n C dX6_listen_46 4 rfl ?_
        refine tw_callV (As := [.ref (tw_ad G f), .ref (tw_ad G 3)]) (rest := []) C N (c_X6_hearsFirst hG (S := S) hK hS hck0 hckb hl0 ha0 hnb hf hf34 hfs hfb hfl (by omega)) mm_X6_hearsFirst wd_484 rfl (hG 19 (by decide)) sh_19 rfl (by decide) rfl (Nat.le_of_ble_eq_true rfl) dX6_listen_47 ?_
        rintro v S2 hr
        show TW G X S2 [(4, .int (nI (fs.getD 0 0))), (3, .int (nI 0)), (0, .ref (tw_ad G 19)), (1, .ref (tw_ad G f)), (2, .ref (tw_ad G 3))] 50 [.int v]
        refine tw_istore_n (L' := [(3, .int v), (4, .int (nI (fs.getD 0 0))), (0, .ref (tw_ad G 19)), (1, .ref (tw_ad G f)), (2, .ref (tw_ad G 3))]) C N dX6_listen_50 rfl (by decide) rfl ?_
        refine tw_goto C dX6_listen_51 (tgt := 89) (by decide) ?_
        have hv := hr.1
        subst hv
        refine TW.c (L' := [(3, .int (nI ((firstL K fs ck c).1))), (4, .int (nI (fs.getD 0 0))), (0, .ref (tw_ad G 19)), (1, .ref (tw_ad G f)), (2, .ref (tw_ad G 3))]) (by simp) ?_
        exact tail (firstL K fs ck c) S2 (by unfold listenP; rw [if_neg (by omega), if_pos (by omega)]) (firstL_le _ _ _ _) hr
  · skip
    refine tw_aload_n C dX6_listen_17 2 rfl ?_
    refine tw_aload_n C dX6_listen_18 3 rfl ?_
    refine tw_aload_n C dX6_listen_19 4 rfl ?_
    refine tw_callV (As := [.ref (tw_ad G f), .ref (tw_ad G 3)]) (rest := []) C N (c_X6_hearsAll hG (S := S) hK hS hck0 hckb hl0 ha0 hnb hf hf34 hfs hfb hfl) mm_X6_hearsAll wd_352 rfl (hG 19 (by decide)) sh_19 rfl (by decide) rfl (Nat.le_of_ble_eq_true rfl) dX6_listen_20 ?_
    rintro v S2 hr
    show TW G X S2 [(4, .int (nI (fs.getD 0 0))), (3, .int (nI 0)), (0, .ref (tw_ad G 19)), (1, .ref (tw_ad G f)), (2, .ref (tw_ad G 3))] 23 [.int v]
    refine tw_istore_n (L' := [(3, .int v), (4, .int (nI (fs.getD 0 0))), (0, .ref (tw_ad G 19)), (1, .ref (tw_ad G f)), (2, .ref (tw_ad G 3))]) C N dX6_listen_23 rfl (by decide) rfl ?_
    refine tw_goto C dX6_listen_24 (tgt := 89) (by decide) ?_
    have hv := hr.1
    subst hv
    refine TW.c (L' := [(3, .int (nI ((allL K fs c).1))), (4, .int (nI (fs.getD 0 0))), (0, .ref (tw_ad G 19)), (1, .ref (tw_ad G f)), (2, .ref (tw_ad G 3))]) (by simp) ?_
    exact tail (allL K fs c) S2 (by unfold listenP; rw [if_pos (by omega)]) (allL_le _ _ _) hr
