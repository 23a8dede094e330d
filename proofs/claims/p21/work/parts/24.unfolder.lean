def UF (B : tw_S) (F : Nat → Int32) (pk : List Nat) : tw_S := tw_uR (tw_wI B 9 F) 10 pk
theorem UF_uI (B : tw_S) (F : Nat → Int32) (pk : List Nat) (k : Nat) (x : Int32) : tw_uI (UF B F pk) 9 k x = UF B (upd F k x) pk := by
  simp only [UF, tw_uI, tw_uR, tw_wI, Prod.mk.injEq, true_and, and_true]
  funext q j
  by_cases h : q = 9 <;> by_cases h2 : j = k <;> simp [h, h2, upd]
theorem UF_uR (B : tw_S) (F : Nat → Int32) (pk p' : List Nat) : tw_uR (UF B F pk) 10 p' = UF B F p' := tw_uR_uR _ _ _ _
theorem UF_self (S : tw_S) : S = UF S (tw_I S 9) (tw_R S 10) := by
  have h1 : (fun q j => if q = 9 then tw_I S 9 j else S.2.1 q j) = S.2.1 := by
    funext q j
    by_cases h : q = 9
    · subst h; simp [tw_I]
    · simp [h]
  have h2 : tw_wI S 9 (tw_I S 9) = S := by simp only [tw_wI, h1]
  unfold UF
  rw [h2, tw_uR_self]
theorem UF_R {B : tw_S} {F : Nat → Int32} {pk bs : List Nat} {q : Nat} (hq : q ≠ 10) (h : tw_R B q = bs) : tw_R (UF B F pk) q = bs := (tq_uR_ne _ _ hq).trans h
def UK (F : Nat → Int32) (a f p : Nat) (x5 x6 x7 x8 : Int32) : Prop := F 2 = nI a ∧ F 3 = nI f ∧ F 4 = nI p ∧ F 5 = x5 ∧ F 6 = x6 ∧ F 7 = x7 ∧ F 8 = x8
def uGo (B S' : tw_S) (a : Nat) (x5 x6 x7 x8 : Int32) (pk : List Nat) : Prop := ∃ F', S' = UF B F' pk ∧ UK F' a 0 0 x5 x6 x7 x8
def uFail (B S' : tw_S) (ft : Nat × Nat) : Prop := ft.1 ≠ 0 ∧ ∃ F' pk', S' = UF B F' pk' ∧ F' 3 = nI ft.1 ∧ F' 4 = nI ft.2
theorem c_X9_fails {G : tw_G} (hG : tw_cG G) {B : tw_S} {F : Nat → Int32} {pk : List Nat} {f p : Nat} : tw_M G yX9_fails cX9_fails 3 (some .boolean) 0 0 [.ref (tw_ad G 9), .int (nI f), .int (nI p)] (UF B F pk) ri_I (fun v S' => v = bI false ∧ S' = UF B (upd (upd F 3 (nI f)) 4 (nI p)) pk) := by
  refine tw_M.of (L := [(0, .ref (tw_ad G 9)), (1, .int (nI f)), (2, .int (nI p))]) (by decide) (Nat.le_of_ble_eq_true rfl) rfl (fun X C N Q => ?_)
  have C : tw_C G X cX9_fails RX9 := C
  refine tw_aload_n C dX9_fails_0 0 rfl ?_
  refine tw_iload_n C dX9_fails_1 1 rfl ?_
  refine tw_putI (k := 3) C dX9_fails_2 fc_X9 sh_9 (hG 9 (by decide)) rfl (by decide) rfl wd_361 rfl rfl ?_
  refine TW.sS (S' := UF B (upd F 3 (nI f)) pk) (UF_uI _ _ _ _ _) ?_
  refine tw_aload_n C dX9_fails_5 0 rfl ?_
  refine tw_iload_n C dX9_fails_6 2 rfl ?_
  refine tw_putI (k := 4) C dX9_fails_7 fc_X9 sh_9 (hG 9 (by decide)) rfl (by decide) rfl wd_362 rfl rfl ?_
  refine TW.sS (S' := UF B (upd (upd F 3 (nI f)) 4 (nI p)) pk) (UF_uI _ _ _ _ _) ?_
  refine tw_iconst C dX9_fails_10 (v := nI 0) (by decide) ?_
  exact tw_ireturn C Q dX9_fails_11 rfl rfl rfl ⟨rfl, rfl⟩
theorem c_X9_has {G : tw_G} (hG : tw_cG G) {B : tw_S} {F : Nat → Int32} {pk : List Nat} {q : Nat} (hq : tw_isRow q = true) (hq10 : q ≠ 10) {bs : List Nat} (hbs : tw_R B q = bs) (hby : ∀ x ∈ bs, x < 256) (hlen : bs.length ≤ 640) {a m : Nat} (hF : F 2 = nI a) (ha : a ≤ bs.length) (hm : m < 2 ^ 30) : tw_M G yX9_has cX9_has 3 (some .boolean) 1 22 [.ref (tw_ad G 9), .ref (tw_ad G q), .int (nI m)] (UF B F pk) ri_I (fun v S' => (a + m ≤ bs.length ∧ v = bI true ∧ S' = UF B F pk) ∨ (bs.length < a + m ∧ v = bI false ∧ S' = UF B (upd (upd F 3 (nI 1)) 4 (nI bs.length)) pk)) := by
  refine tw_M.of (L := [(0, .ref (tw_ad G 9)), (1, .ref (tw_ad G q)), (2, .int (nI m))]) (by decide) (Nat.le_of_ble_eq_true rfl) rfl (fun X C N Q => ?_)
  have C : tw_C G X cX9_has RX9 := C
  refine tw_iload_n C dX9_has_0 2 rfl ?_
  refine tw_aload_n C dX9_has_1 1 rfl ?_
  refine tw_callV (As := []) (rest := [.int (nI m)]) C N (e_X7_length hG (S := UF B F pk) hq (xs := bs) (UF_R hq10 hbs) ) mm_X7_length wd_380 rfl (hG _ (tw_row_lt hq).2) (tw_row_sh hq) rfl (by decide) rfl (Nat.le_of_ble_eq_true rfl) dX9_has_2 ?_
  rintro _ _ ⟨rfl, rfl⟩
  show TW G X (UF B F pk) [(0, .ref (tw_ad G 9)), (1, .ref (tw_ad G q)), (2, .int (nI m))] 5 [.int (nI bs.length), .int (nI m)]
  refine tw_aload_n C dX9_has_5 0 rfl ?_
  refine tw_getI (v := nI a) (k := 2) C dX9_has_6 fc_X9 sh_9 (hG 9 (by decide)) rfl (by decide) wd_360 hF ?_
  refine tw_isub C dX9_has_9 (v := nI (bs.length - a)) (pk_sub (by omega)) ?_
  refine tn_icmp_le C dX9_has_10 (tgt := 25) (by decide) (by omega) (by omega) (fun c2 => ?_) (fun c2 => ?_)
  · skip
    refine tw_iconst C dX9_has_25 (v := nI 1) (by decide) ?_
    refine tw_goto C dX9_has_26 (tgt := 30) (by decide) ?_
    exact tw_ireturn C Q dX9_has_30 rfl rfl rfl (Or.inl ⟨by omega, rfl, rfl⟩)
  · skip
    refine tw_aload_n C dX9_has_13 0 rfl ?_
    refine tw_iconst C dX9_has_14 (v := nI 1) (by decide) ?_
    refine tw_aload_n C dX9_has_15 1 rfl ?_
    refine tw_callV (As := []) (rest := [.int (nI 1), .ref (tw_ad G 9)]) C N (e_X7_length hG (S := UF B F pk) hq (xs := bs) (UF_R hq10 hbs) ) mm_X7_length wd_380 rfl (hG _ (tw_row_lt hq).2) (tw_row_sh hq) rfl (by decide) rfl (Nat.le_of_ble_eq_true rfl) dX9_has_16 ?_
    rintro _ _ ⟨rfl, rfl⟩
    show TW G X (UF B F pk) [(0, .ref (tw_ad G 9)), (1, .ref (tw_ad G q)), (2, .int (nI m))] 19 [.int (nI bs.length), .int (nI 1), .ref (tw_ad G 9)]
    refine tw_callV (As := [.int (nI 1), .int (nI bs.length)]) (rest := []) C N (c_X9_fails hG (B := B) (F := F) (pk := pk) (f := 1) (p := bs.length)) mm_X9_fails wd_381 rfl (hG 9 (by decide)) sh_9 rfl (by decide) rfl (Nat.le_of_ble_eq_true rfl) dX9_has_19 ?_
    rintro _ _ ⟨rfl, rfl⟩
    show TW G X (UF B (upd (upd F 3 (nI 1)) 4 (nI bs.length)) pk) [(0, .ref (tw_ad G 9)), (1, .ref (tw_ad G q)), (2, .int (nI m))] 22 [.int (bI false)]
    refine tb_if_eq C dX9_has_22 (tgt := 29) (by decide) (fun c5 => ?_) (fun c5 => ?_)
    · skip
      refine tw_iconst C dX9_has_29 (v := nI 0) (by decide) ?_
      exact tw_ireturn C Q dX9_has_30 rfl rfl rfl (Or.inr ⟨by omega, rfl, rfl⟩)
    · exact absurd c5 (by decide)
theorem c_X9_next {G : tw_G} (hG : tw_cG G) {B : tw_S} {F : Nat → Int32} {pk : List Nat} {q : Nat} (hq : tw_isRow q = true) (hq10 : q ≠ 10) {bs : List Nat} (hbs : tw_R B q = bs) (hby : ∀ x ∈ bs, x < 256) (hlen : bs.length ≤ 640) {a : Nat} (hF : F 2 = nI a) (ha : a < 2 ^ 30) : tw_M G yX9_next cX9_next 3 (some .int) 1 21 [.ref (tw_ad G 9), .ref (tw_ad G q)] (UF B F pk) ri_I (fun v S' => v = nI (bs.getD a 0) ∧ S' = UF B (upd F 2 (nI (a + 1))) pk) := by
  refine tw_M.of (L := [(0, .ref (tw_ad G 9)), (1, .ref (tw_ad G q))]) (by decide) (Nat.le_of_ble_eq_true rfl) rfl (fun X C N Q => ?_)
  have C : tw_C G X cX9_next RX9 := C
  refine tw_aload_n C dX9_next_0 1 rfl ?_
  refine tw_aload_n C dX9_next_1 0 rfl ?_
  refine tw_getI (v := nI a) (k := 2) C dX9_next_2 fc_X9 sh_9 (hG 9 (by decide)) rfl (by decide) wd_360 hF ?_
  refine tw_callV (As := [.int (nI a)]) (rest := []) C N (e_X7_at hG (S := UF B F pk) hq (xs := bs) (UF_R hq10 hbs) (i := a) (by omega)) mm_X7_at wd_385 rfl (hG _ (tw_row_lt hq).2) (tw_row_sh hq) rfl (by decide) rfl (Nat.le_of_ble_eq_true rfl) dX9_next_5 ?_
  rintro _ _ ⟨rfl, rfl⟩
  show TW G X (UF B F pk) [(0, .ref (tw_ad G 9)), (1, .ref (tw_ad G q))] 8 [.int (nI (bs.getD a 0))]
  refine tw_istore_n (L' := [(2, .int (nI (bs.getD a 0))), (0, .ref (tw_ad G 9)), (1, .ref (tw_ad G q))]) C N dX9_next_8 rfl (by decide) rfl ?_
  refine tw_aload_n C dX9_next_9 1 rfl ?_
  refine tw_dup C dX9_next_10 rfl ?_
  refine tw_getI (v := nI a) (k := 2) C dX9_next_11 fc_X9 sh_9 (hG 9 (by decide)) rfl (by decide) wd_360 hF ?_
  refine tw_iconst C dX9_next_14 (v := nI 1) (by decide) ?_
  refine tw_iadd C dX9_next_15 (v := nI (a + 1)) (nI_add _ _) ?_
  refine tw_putI (k := 2) C dX9_next_16 fc_X9 sh_9 (hG 9 (by decide)) rfl (by decide) rfl wd_360 rfl rfl ?_
  refine TW.sS (S' := UF B (upd F 2 (nI (a + 1))) pk) (UF_uI _ _ _ _ _) ?_
  refine tw_iload_n C dX9_next_19 0 rfl ?_
  exact tw_ireturn C Q dX9_next_20 rfl rfl rfl ⟨rfl, rfl⟩
theorem c_X9_traffic {G : tw_G} (hG : tw_cG G) {B : tw_S} {F : Nat → Int32} {pk : List Nat} {b0 : Nat} (hF : F 5 = nI b0) (hb0 : b0 < 256) : tw_M G yX9_traffic cX9_traffic 1 (some .int) 0 0 [.ref (tw_ad G 9)] (UF B F pk) ri_I (fun v S' => v = nI (uTF b0) ∧ S' = UF B F pk) := by
  refine tw_M.of (L := [(0, .ref (tw_ad G 9))]) (by decide) (Nat.le_of_ble_eq_true rfl) rfl (fun X C N Q => ?_)
  have C : tw_C G X cX9_traffic RX9 := C
  refine tw_aload_n C dX9_traffic_0 0 rfl ?_
  refine tw_getI (v := nI b0) (k := 5) C dX9_traffic_1 fc_X9 sh_9 (hG 9 (by decide)) rfl (by decide) wd_374 hF ?_
  refine tw_iconst C dX9_traffic_4 (v := nI 3) (by decide) ?_
  refine tw_ishr C dX9_traffic_5 (v := nI (b0 / 8)) (nI_shr (by omega) 3 (by decide)) ?_
  refine tw_iconst C dX9_traffic_6 (v := nI 3) (by decide) ?_
  refine tw_iand C dX9_traffic_7 (v := nI ((b0 / 8) % 4)) (nI_andm 2 (by decide)) ?_
  exact tw_ireturn C Q dX9_traffic_8 rfl rfl rfl ⟨rfl, rfl⟩
theorem uPo_and : ∀ b0, b0 < 256 → (b0 &&& 4 = 0 ↔ uPo b0 = false) := by decide +kernel
theorem c_X9_ports {G : tw_G} (hG : tw_cG G) {B : tw_S} {F : Nat → Int32} {pk : List Nat} {b0 : Nat} (hF : F 5 = nI b0) (hb0 : b0 < 256) : tw_M G yX9_ports cX9_ports 1 (some .boolean) 0 0 [.ref (tw_ad G 9)] (UF B F pk) ri_I (fun v S' => v = bI (uPo b0) ∧ S' = UF B F pk) := by
  refine tw_M.of (L := [(0, .ref (tw_ad G 9))]) (by decide) (Nat.le_of_ble_eq_true rfl) rfl (fun X C N Q => ?_)
  have C : tw_C G X cX9_ports RX9 := C
  refine tw_aload_n C dX9_ports_0 0 rfl ?_
  refine tw_getI (v := nI b0) (k := 5) C dX9_ports_1 fc_X9 sh_9 (hG 9 (by decide)) rfl (by decide) wd_374 hF ?_
  refine tw_iconst C dX9_ports_4 (v := nI 4) (by decide) ?_
  refine tw_iand C dX9_ports_5 (v := nI (b0 &&& 4)) (nI_and _ _) ?_
  refine tn_if_eq C dX9_ports_6 (tgt := 13) (by decide) (Nat.lt_of_le_of_lt Nat.and_le_left (by omega)) (fun c1 => ?_) (fun c1 => ?_)
  · skip
    refine tw_iconst C dX9_ports_13 (v := nI 0) (by decide) ?_
    exact tw_ireturn C Q dX9_ports_14 rfl rfl rfl ⟨bI_nf ((uPo_and b0 hb0).mp (by omega)), rfl⟩
  · skip
    refine tw_iconst C dX9_ports_9 (v := nI 1) (by decide) ?_
    refine tw_goto C dX9_ports_10 (tgt := 14) (by decide) ?_
    exact tw_ireturn C Q dX9_ports_14 rfl rfl rfl ⟨bI_nt (by cases h : uPo b0 with | true => rfl | false => exact absurd ((uPo_and b0 hb0).mpr h) (by omega)), rfl⟩
theorem c_X9_source {G : tw_G} (hG : tw_cG G) {B : tw_S} {F : Nat → Int32} {pk : List Nat} {b1 : Nat} (hF : F 6 = nI b1) (hb1 : b1 < 256) : tw_M G yX9_source cX9_source 1 (some .int) 0 0 [.ref (tw_ad G 9)] (UF B F pk) ri_I (fun v S' => v = nI (uSrc b1) ∧ S' = UF B F pk) := by
  refine tw_M.of (L := [(0, .ref (tw_ad G 9))]) (by decide) (Nat.le_of_ble_eq_true rfl) rfl (fun X C N Q => ?_)
  have C : tw_C G X cX9_source RX9 := C
  refine tw_aload_n C dX9_source_0 0 rfl ?_
  refine tw_getI (v := nI b1) (k := 6) C dX9_source_1 fc_X9 sh_9 (hG 9 (by decide)) rfl (by decide) wd_375 hF ?_
  refine tw_iconst C dX9_source_4 (v := nI 4) (by decide) ?_
  refine tw_ishr C dX9_source_5 (v := nI (b1 / 16)) (nI_shr (by omega) 4 (by decide)) ?_
  refine tw_bipush C dX9_source_6 (v := nI 7) (by decide) ?_
  refine tw_iand C dX9_source_8 (v := nI ((b1 / 16) % 8)) (nI_andm 3 (by decide)) ?_
  exact tw_ireturn C Q dX9_source_9 rfl rfl rfl ⟨rfl, rfl⟩
theorem c_X9_goal {G : tw_G} (hG : tw_cG G) {B : tw_S} {F : Nat → Int32} {pk : List Nat} {b1 : Nat} (hF : F 6 = nI b1) (hb1 : b1 < 256) : tw_M G yX9_goal cX9_goal 1 (some .int) 0 0 [.ref (tw_ad G 9)] (UF B F pk) ri_I (fun v S' => v = nI (uGoal b1) ∧ S' = UF B F pk) := by
  refine tw_M.of (L := [(0, .ref (tw_ad G 9))]) (by decide) (Nat.le_of_ble_eq_true rfl) rfl (fun X C N Q => ?_)
  have C : tw_C G X cX9_goal RX9 := C
  refine tw_aload_n C dX9_goal_0 0 rfl ?_
  refine tw_getI (v := nI b1) (k := 6) C dX9_goal_1 fc_X9 sh_9 (hG 9 (by decide)) rfl (by decide) wd_375 hF ?_
  refine tw_bipush C dX9_goal_4 (v := nI 15) (by decide) ?_
  refine tw_iand C dX9_goal_6 (v := nI (b1 % 16)) (nI_andm 4 (by decide)) ?_
  exact tw_ireturn C Q dX9_goal_7 rfl rfl rfl ⟨rfl, rfl⟩
theorem uFt_1 {K : kN} {bs : List Nat} {s : Nat} (h : bs.length < s + 1) : uFt K bs s = (1, bs.length) := by simp only [uFt, if_pos h]
theorem uFt_2 {K : kN} {bs : List Nat} {s : Nat} (h : s + 1 ≤ bs.length) (h2 : ¬ bs.getD s 0 / 32 = 3) : uFt K bs s = (2, s) := by simp only [uFt]; rw [if_neg (by omega), if_pos h2]
theorem uFt_3 {K : kN} {bs : List Nat} {s : Nat} (h : s + 1 ≤ bs.length) (h2 : bs.getD s 0 / 32 = 3) (h3 : bs.length < s + 1 + 1) : uFt K bs s = (1, bs.length) := by simp only [uFt]; rw [if_neg (by omega), if_neg (by omega), if_pos (by omega)]
/-- the first two bytes are well -/
def u1 (bs : List Nat) (s : Nat) : Prop := s + 2 ≤ bs.length ∧ bs.getD s 0 / 32 = 3 ∧ ¬ (uGoal (bs.getD (s + 1) 0) = 4 ∨ 11 < uGoal (bs.getD (s + 1) 0))
theorem uFt_4 {K : kN} {bs : List Nat} {s : Nat} (h : s + 1 + 1 ≤ bs.length) (h2 : bs.getD s 0 / 32 = 3) (h3 : uGoal (bs.getD (s + 1) 0) = 4 ∨ 11 < uGoal (bs.getD (s + 1) 0)) : uFt K bs s = (3, s + 1) := by simp only [uFt]; rw [if_neg (by omega), if_neg (by omega), if_neg (by omega), if_pos h3]
theorem uFt_5 {K : kN} {bs : List Nat} {s : Nat} (h : u1 bs s) (h2 : bs.length < uA1 (bs.getD (s + 1) 0) s) : uFt K bs s = (1, bs.length) := by simp only [uFt]; rw [if_neg (by have := h.1; omega), if_neg (by have := h.2.1; omega), if_neg (by have := h.1; omega), if_neg h.2.2, if_pos h2]
theorem uFt_6 {K : kN} {bs : List Nat} {s : Nat} (h : u1 bs s) (h2 : uA1 (bs.getD (s + 1) 0) s ≤ bs.length) (h3 : uLack K (bs.getD (s + 1) 0) (uCx bs (bs.getD (s + 1) 0) s) = true) : uFt K bs s = (4, uA1 (bs.getD (s + 1) 0) s - 1) := by simp only [uFt]; rw [if_neg (by have := h.1; omega), if_neg (by have := h.2.1; omega), if_neg (by have := h.1; omega), if_neg h.2.2, if_neg (by omega), if_pos h3]
def u2 (K : kN) (bs : List Nat) (s : Nat) : Prop := u1 bs s ∧ uA1 (bs.getD (s + 1) 0) s ≤ bs.length ∧ uLack K (bs.getD (s + 1) 0) (uCx bs (bs.getD (s + 1) 0) s) = false
theorem uFt_r2 {K : kN} {bs : List Nat} {s : Nat} (h : u2 K bs s) : uFt K bs s = (let b0 := bs.getD s 0; let b1 := bs.getD (s + 1) 0; let e := bs.length
    if e < uA2 b0 b1 s then (1, e) else if uWr bs (uTF b0) (uA1 b1 s) ≠ 0 then (5, uA1 b1 s) else if e < uA6 b0 b1 s then (1, e)
    else if uPo b0 = true then (if e < uA6 b0 b1 s + 1 then (1, e) else if uFm bs b0 b1 s < 240 ∨ 243 < uFm bs b0 b1 s then (6, uA6 b0 b1 s) else if e < uA7 bs b0 b1 s then (1, e) else (0, 0))
    else (0, 0)) := by
  obtain ⟨h1, h2, h3⟩ := h
  simp only [uFt]
  rw [if_neg (by have := h1.1; omega), if_neg (by have := h1.2.1; omega), if_neg (by have := h1.1; omega), if_neg h1.2.2, if_neg (by omega), if_neg (by rw [h3]; decide)]
def u3 (K : kN) (bs : List Nat) (s : Nat) : Prop := u2 K bs s ∧ uA2 (bs.getD s 0) (bs.getD (s + 1) 0) s ≤ bs.length ∧ uWr bs (uTF (bs.getD s 0)) (uA1 (bs.getD (s + 1) 0) s) = 0
theorem uFt_r3 {K : kN} {bs : List Nat} {s : Nat} (h : u3 K bs s) : uFt K bs s = (let b0 := bs.getD s 0; let b1 := bs.getD (s + 1) 0; let e := bs.length
    if e < uA6 b0 b1 s then (1, e)
    else if uPo b0 = true then (if e < uA6 b0 b1 s + 1 then (1, e) else if uFm bs b0 b1 s < 240 ∨ 243 < uFm bs b0 b1 s then (6, uA6 b0 b1 s) else if e < uA7 bs b0 b1 s then (1, e) else (0, 0))
    else (0, 0)) := by
  obtain ⟨h1, h2, h3⟩ := h
  rw [uFt_r2 h1]
  simp only
  rw [if_neg (by omega), if_neg (by omega)]
theorem uFt_a6 {K : kN} {bs : List Nat} {s : Nat} (h : u3 K bs s) (h2 : bs.length < uA6 (bs.getD s 0) (bs.getD (s + 1) 0) s) : uFt K bs s = (1, bs.length) := by
  rw [uFt_r3 h]; simp only; rw [if_pos h2]
theorem uFt_r4 {K : kN} {bs : List Nat} {s : Nat} (h : u3 K bs s) (h2 : uA6 (bs.getD s 0) (bs.getD (s + 1) 0) s ≤ bs.length) : uFt K bs s = (let b0 := bs.getD s 0; let b1 := bs.getD (s + 1) 0; let e := bs.length
    if uPo b0 = true then (if e < uA6 b0 b1 s + 1 then (1, e) else if uFm bs b0 b1 s < 240 ∨ 243 < uFm bs b0 b1 s then (6, uA6 b0 b1 s) else if e < uA7 bs b0 b1 s then (1, e) else (0, 0))
    else (0, 0)) := by
  rw [uFt_r3 h]; simp only; rw [if_neg (by omega)]
theorem uFail_of {B S' : tw_S} {ft : Nat × Nat} {f p : Nat} (e : ft = (f, p)) (hf : f ≠ 0) {F' : Nat → Int32} {pk' : List Nat} (h : S' = UF B F' pk') (h3 : F' 3 = nI f) (h4 : F' 4 = nI p) : uFail B S' ft := by
  subst e; exact ⟨hf, F', pk', h, h3, h4⟩
theorem c_X9_readsForm {G : tw_G} (hG : tw_cG G) {B : tw_S} {F : Nat → Int32} {pk : List Nat} {q : Nat} (hq : tw_isRow q = true) (hq10 : q ≠ 10) {bs : List Nat} (hbs : tw_R B q = bs) (hby : ∀ x ∈ bs, x < 256) (hlen : bs.length ≤ 640) {K : kN} {s : Nat} {x5 x6 x7 x8 : Int32} (hs : s < 2 ^ 20) (hs2 : s ≤ bs.length) (hF : UK F s 0 0 x5 x6 x7 x8) : tw_M G yX9_readsForm cX9_readsForm 2 (some .boolean) 2 44 [.ref (tw_ad G 9), .ref (tw_ad G q)] (UF B F pk) ri_I (fun v S' => (u1 bs s ∧ v = bI true ∧ uGo B S' (s + 2) (nI (bs.getD s 0)) (nI (bs.getD (s + 1) 0)) x7 x8 pk) ∨ (v = bI false ∧ uFail B S' (uFt K bs s))) := by
  refine tw_M.of (L := [(0, .ref (tw_ad G 9)), (1, .ref (tw_ad G q))]) (by decide) (Nat.le_of_ble_eq_true rfl) rfl (fun X C N Q => ?_)
  have C : tw_C G X cX9_readsForm RX9 := C
  have hb0 := getD_in hby s
  have hb1 := getD_in hby (s + 1)
  have hg : uGoal (bs.getD (s + 1) 0) < 16 := Nat.mod_lt _ (by decide)
  refine tw_aload_n C dX9_readsForm_0 0 rfl ?_
  refine tw_aload_n C dX9_readsForm_1 1 rfl ?_
  refine tw_iconst C dX9_readsForm_2 (v := nI 1) (by decide) ?_
  refine tw_callV (As := [.ref (tw_ad G q), .int (nI 1)]) (rest := []) C N (c_X9_has hG (B := B) (F := F) (pk := pk) hq hq10 hbs hby hlen (a := s) (m := 1) hF.1 (by omega) (by omega)) mm_X9_has wd_376 rfl (hG 9 (by decide)) sh_9 rfl (by decide) rfl (Nat.le_of_ble_eq_true rfl) dX9_readsForm_3 ?_
  rintro _ _ (⟨hh1, rfl, rfl⟩ | ⟨hh1, rfl, rfl⟩)
  · show TW G X (UF B F pk) [(0, .ref (tw_ad G 9)), (1, .ref (tw_ad G q))] 6 [.int (bI true)]
    refine tb_if_ne C dX9_readsForm_6 (tgt := 11) (by decide) (fun c3 => ?_) (fun c3 => ?_)
    · skip
      refine tw_aload_n C dX9_readsForm_11 1 rfl ?_
      refine tw_aload_n C dX9_readsForm_12 0 rfl ?_
      refine tw_getI (v := nI s) (k := 2) C dX9_readsForm_13 fc_X9 sh_9 (hG 9 (by decide)) rfl (by decide) wd_360 hF.1 ?_
      refine tw_callV (As := [.int (nI s)]) (rest := []) C N (e_X7_at hG (S := UF B F pk) hq (xs := bs) (UF_R hq10 hbs) (i := s) (by omega)) mm_X7_at wd_385 rfl (hG _ (tw_row_lt hq).2) (tw_row_sh hq) rfl (by decide) rfl (Nat.le_of_ble_eq_true rfl) dX9_readsForm_16 ?_
      rintro _ _ ⟨rfl, rfl⟩
      show TW G X (UF B F pk) [(0, .ref (tw_ad G 9)), (1, .ref (tw_ad G q))] 19 [.int (nI (bs.getD s 0))]
      refine tw_iconst C dX9_readsForm_19 (v := nI 5) (by decide) ?_
      refine tw_ishr C dX9_readsForm_20 (v := nI ((bs.getD s 0) / 32)) (nI_shr (by omega) 5 (by decide)) ?_
      refine tw_iconst C dX9_readsForm_21 (v := nI 3) (by decide) ?_
      refine tn_icmp_eq C dX9_readsForm_22 (tgt := 35) (by decide) (by omega) (by omega) (fun c5 => ?_) (fun c5 => ?_)
      · skip
        refine tw_aload_n C dX9_readsForm_35 0 rfl ?_
        refine tw_aload_n C dX9_readsForm_36 0 rfl ?_
        refine tw_aload_n C dX9_readsForm_37 1 rfl ?_
        refine tw_callV (As := [.ref (tw_ad G q)]) (rest := [.ref (tw_ad G 9)]) C N (c_X9_next hG (B := B) (F := F) (pk := pk) hq hq10 hbs hby hlen (a := s) hF.1 (by omega)) mm_X9_next wd_386 rfl (hG 9 (by decide)) sh_9 rfl (by decide) rfl (Nat.le_of_ble_eq_true rfl) dX9_readsForm_38 ?_
        rintro _ _ ⟨rfl, rfl⟩
        show TW G X (UF B (upd F 2 (nI (s + 1))) pk) [(0, .ref (tw_ad G 9)), (1, .ref (tw_ad G q))] 41 [.int (nI (bs.getD s 0)), .ref (tw_ad G 9)]
        refine tw_putI (k := 5) C dX9_readsForm_41 fc_X9 sh_9 (hG 9 (by decide)) rfl (by decide) rfl wd_374 rfl rfl ?_
        refine TW.sS (S' := UF B (upd (upd F 2 (nI (s + 1))) 5 (nI (bs.getD s 0))) pk) (UF_uI _ _ _ _ _) ?_
        refine tw_aload_n C dX9_readsForm_44 0 rfl ?_
        refine tw_aload_n C dX9_readsForm_45 1 rfl ?_
        refine tw_iconst C dX9_readsForm_46 (v := nI 1) (by decide) ?_
        refine tw_callV (As := [.ref (tw_ad G q), .int (nI 1)]) (rest := []) C N (c_X9_has hG (B := B) (F := upd (upd F 2 (nI (s + 1))) 5 (nI (bs.getD s 0))) (pk := pk) hq hq10 hbs hby hlen (a := s + 1) (m := 1) (by rfl) (by omega) (by omega)) mm_X9_has wd_376 rfl (hG 9 (by decide)) sh_9 rfl (by decide) rfl (Nat.le_of_ble_eq_true rfl) dX9_readsForm_47 ?_
        rintro _ _ (⟨hh7, rfl, rfl⟩ | ⟨hh7, rfl, rfl⟩)
        · show TW G X (UF B (upd (upd F 2 (nI (s + 1))) 5 (nI (bs.getD s 0))) pk) [(0, .ref (tw_ad G 9)), (1, .ref (tw_ad G q))] 50 [.int (bI true)]
          refine tb_if_ne C dX9_readsForm_50 (tgt := 55) (by decide) (fun c9 => ?_) (fun c9 => ?_)
          · skip
            refine tw_aload_n C dX9_readsForm_55 0 rfl ?_
            refine tw_aload_n C dX9_readsForm_56 1 rfl ?_
            refine tw_aload_n C dX9_readsForm_57 0 rfl ?_
            refine tw_getI (v := nI (s + 1)) (k := 2) C dX9_readsForm_58 fc_X9 sh_9 (hG 9 (by decide)) rfl (by decide) wd_360 rfl ?_
            refine tw_callV (As := [.int (nI (s + 1))]) (rest := [.ref (tw_ad G 9)]) C N (e_X7_at hG (S := UF B (upd (upd F 2 (nI (s + 1))) 5 (nI (bs.getD s 0))) pk) hq (xs := bs) (UF_R hq10 hbs) (i := s + 1) (by omega)) mm_X7_at wd_385 rfl (hG _ (tw_row_lt hq).2) (tw_row_sh hq) rfl (by decide) rfl (Nat.le_of_ble_eq_true rfl) dX9_readsForm_61 ?_
            rintro _ _ ⟨rfl, rfl⟩
            show TW G X (UF B (upd (upd F 2 (nI (s + 1))) 5 (nI (bs.getD s 0))) pk) [(0, .ref (tw_ad G 9)), (1, .ref (tw_ad G q))] 64 [.int (nI (bs.getD (s + 1) 0)), .ref (tw_ad G 9)]
            refine tw_putI (k := 6) C dX9_readsForm_64 fc_X9 sh_9 (hG 9 (by decide)) rfl (by decide) rfl wd_375 rfl rfl ?_
            refine TW.sS (S' := UF B (upd (upd (upd F 2 (nI (s + 1))) 5 (nI (bs.getD s 0))) 6 (nI (bs.getD (s + 1) 0))) pk) (UF_uI _ _ _ _ _) ?_
            refine tw_aload_n C dX9_readsForm_67 0 rfl ?_
            refine tw_callV (As := []) (rest := []) C N (c_X9_goal hG (B := B) (F := upd (upd (upd F 2 (nI (s + 1))) 5 (nI (bs.getD s 0))) 6 (nI (bs.getD (s + 1) 0))) (pk := pk) (b1 := bs.getD (s + 1) 0) rfl (by assumption)) mm_X9_goal wd_390 rfl (hG 9 (by decide)) sh_9 rfl (by decide) rfl (Nat.le_of_ble_eq_true rfl) dX9_readsForm_68 ?_
            rintro _ _ ⟨rfl, rfl⟩
            show TW G X (UF B (upd (upd (upd F 2 (nI (s + 1))) 5 (nI (bs.getD s 0))) 6 (nI (bs.getD (s + 1) 0))) pk) [(0, .ref (tw_ad G 9)), (1, .ref (tw_ad G q))] 71 [.int (nI (uGoal (bs.getD (s + 1) 0)))]
            refine tw_iconst C dX9_readsForm_71 (v := nI 4) (by decide) ?_
            refine tn_icmp_eq C dX9_readsForm_72 (tgt := 84) (by decide) (by omega) (by omega) (fun c12 => ?_) (fun c12 => ?_)
            · skip
              refine tw_aload_n C dX9_readsForm_84 0 rfl ?_
              refine tw_iconst C dX9_readsForm_85 (v := nI 3) (by decide) ?_
              refine tw_aload_n C dX9_readsForm_86 0 rfl ?_
              refine tw_getI (v := nI (s + 1)) (k := 2) C dX9_readsForm_87 fc_X9 sh_9 (hG 9 (by decide)) rfl (by decide) wd_360 rfl ?_
              refine tw_callV (As := [.int (nI 3), .int (nI (s + 1))]) (rest := []) C N (c_X9_fails hG (B := B) (F := upd (upd (upd F 2 (nI (s + 1))) 5 (nI (bs.getD s 0))) 6 (nI (bs.getD (s + 1) 0))) (pk := pk) (f := 3) (p := s + 1)) mm_X9_fails wd_381 rfl (hG 9 (by decide)) sh_9 rfl (by decide) rfl (Nat.le_of_ble_eq_true rfl) dX9_readsForm_90 ?_
              rintro _ _ ⟨rfl, rfl⟩
              show TW G X (UF B (upd (upd (upd (upd (upd F 2 (nI (s + 1))) 5 (nI (bs.getD s 0))) 6 (nI (bs.getD (s + 1) 0))) 3 (nI 3)) 4 (nI (s + 1))) pk) [(0, .ref (tw_ad G 9)), (1, .ref (tw_ad G q))] 93 [.int (bI false)]
              exact tw_ireturn C Q dX9_readsForm_93 rfl (bI_nar _) rfl (Or.inr ⟨rfl, uFail_of (uFt_4 (by omega) (by omega) (by omega)) (by decide) rfl rfl rfl⟩)
            · skip
              refine tw_aload_n C dX9_readsForm_75 0 rfl ?_
              refine tw_callV (As := []) (rest := []) C N (c_X9_goal hG (B := B) (F := upd (upd (upd F 2 (nI (s + 1))) 5 (nI (bs.getD s 0))) 6 (nI (bs.getD (s + 1) 0))) (pk := pk) (b1 := bs.getD (s + 1) 0) rfl (by assumption)) mm_X9_goal wd_390 rfl (hG 9 (by decide)) sh_9 rfl (by decide) rfl (Nat.le_of_ble_eq_true rfl) dX9_readsForm_76 ?_
              rintro _ _ ⟨rfl, rfl⟩
              show TW G X (UF B (upd (upd (upd F 2 (nI (s + 1))) 5 (nI (bs.getD s 0))) 6 (nI (bs.getD (s + 1) 0))) pk) [(0, .ref (tw_ad G 9)), (1, .ref (tw_ad G q))] 79 [.int (nI (uGoal (bs.getD (s + 1) 0)))]
              refine tw_bipush C dX9_readsForm_79 (v := nI 11) (by decide) ?_
              refine tn_icmp_le C dX9_readsForm_81 (tgt := 94) (by decide) (by omega) (by omega) (fun c15 => ?_) (fun c15 => ?_)
              · skip
                refine tw_aload_n C dX9_readsForm_94 0 rfl ?_
                refine tw_dup C dX9_readsForm_95 rfl ?_
                refine tw_getI (v := nI (s + 1)) (k := 2) C dX9_readsForm_96 fc_X9 sh_9 (hG 9 (by decide)) rfl (by decide) wd_360 rfl ?_
                refine tw_iconst C dX9_readsForm_99 (v := nI 1) (by decide) ?_
                refine tw_iadd C dX9_readsForm_100 (v := nI ((s + 1) + 1)) (nI_add _ _) ?_
                refine tw_putI (k := 2) C dX9_readsForm_101 fc_X9 sh_9 (hG 9 (by decide)) rfl (by decide) rfl wd_360 rfl rfl ?_
                refine TW.sS (S' := UF B (upd (upd (upd (upd F 2 (nI (s + 1))) 5 (nI (bs.getD s 0))) 6 (nI (bs.getD (s + 1) 0))) 2 (nI ((s + 1) + 1))) pk) (UF_uI _ _ _ _ _) ?_
                refine tw_iconst C dX9_readsForm_104 (v := nI 1) (by decide) ?_
                exact tw_ireturn C Q dX9_readsForm_105 rfl rfl rfl (Or.inl ⟨⟨by omega, by omega, by omega⟩, rfl, _, rfl, rfl, hF.2.1, hF.2.2.1, rfl, rfl, hF.2.2.2.2.2.1, hF.2.2.2.2.2.2⟩)
              · skip
                refine tw_aload_n C dX9_readsForm_84 0 rfl ?_
                refine tw_iconst C dX9_readsForm_85 (v := nI 3) (by decide) ?_
                refine tw_aload_n C dX9_readsForm_86 0 rfl ?_
                refine tw_getI (v := nI (s + 1)) (k := 2) C dX9_readsForm_87 fc_X9 sh_9 (hG 9 (by decide)) rfl (by decide) wd_360 rfl ?_
                refine tw_callV (As := [.int (nI 3), .int (nI (s + 1))]) (rest := []) C N (c_X9_fails hG (B := B) (F := upd (upd (upd F 2 (nI (s + 1))) 5 (nI (bs.getD s 0))) 6 (nI (bs.getD (s + 1) 0))) (pk := pk) (f := 3) (p := s + 1)) mm_X9_fails wd_381 rfl (hG 9 (by decide)) sh_9 rfl (by decide) rfl (Nat.le_of_ble_eq_true rfl) dX9_readsForm_90 ?_
                rintro _ _ ⟨rfl, rfl⟩
                show TW G X (UF B (upd (upd (upd (upd (upd F 2 (nI (s + 1))) 5 (nI (bs.getD s 0))) 6 (nI (bs.getD (s + 1) 0))) 3 (nI 3)) 4 (nI (s + 1))) pk) [(0, .ref (tw_ad G 9)), (1, .ref (tw_ad G q))] 93 [.int (bI false)]
                exact tw_ireturn C Q dX9_readsForm_93 rfl (bI_nar _) rfl (Or.inr ⟨rfl, uFail_of (uFt_4 (by omega) (by omega) (by omega)) (by decide) rfl rfl rfl⟩)
          · exact absurd c9 (by decide)
        · show TW G X (UF B (upd (upd (upd (upd F 2 (nI (s + 1))) 5 (nI (bs.getD s 0))) 3 (nI 1)) 4 (nI bs.length)) pk) [(0, .ref (tw_ad G 9)), (1, .ref (tw_ad G q))] 50 [.int (bI false)]
          refine tb_if_ne C dX9_readsForm_50 (tgt := 55) (by decide) (fun c17 => ?_) (fun c17 => ?_)
          · exact absurd c17 (by decide)
          refine tw_iconst C dX9_readsForm_53 (v := nI 0) (by decide) ?_
          exact tw_ireturn C Q dX9_readsForm_54 rfl rfl rfl (Or.inr ⟨rfl, uFail_of (uFt_3 (by omega) (by omega) (by omega)) (by decide) rfl rfl rfl⟩)
      · skip
        refine tw_aload_n C dX9_readsForm_25 0 rfl ?_
        refine tw_iconst C dX9_readsForm_26 (v := nI 2) (by decide) ?_
        refine tw_aload_n C dX9_readsForm_27 0 rfl ?_
        refine tw_getI (v := nI s) (k := 2) C dX9_readsForm_28 fc_X9 sh_9 (hG 9 (by decide)) rfl (by decide) wd_360 hF.1 ?_
        refine tw_callV (As := [.int (nI 2), .int (nI s)]) (rest := []) C N (c_X9_fails hG (B := B) (F := F) (pk := pk) (f := 2) (p := s)) mm_X9_fails wd_381 rfl (hG 9 (by decide)) sh_9 rfl (by decide) rfl (Nat.le_of_ble_eq_true rfl) dX9_readsForm_31 ?_
        rintro _ _ ⟨rfl, rfl⟩
        show TW G X (UF B (upd (upd F 3 (nI 2)) 4 (nI s)) pk) [(0, .ref (tw_ad G 9)), (1, .ref (tw_ad G q))] 34 [.int (bI false)]
        exact tw_ireturn C Q dX9_readsForm_34 rfl (bI_nar _) rfl (Or.inr ⟨rfl, uFail_of (uFt_2 (by omega) (by omega)) (by decide) rfl rfl rfl⟩)
    · exact absurd c3 (by decide)
  · show TW G X (UF B (upd (upd F 3 (nI 1)) 4 (nI bs.length)) pk) [(0, .ref (tw_ad G 9)), (1, .ref (tw_ad G q))] 6 [.int (bI false)]
    refine tb_if_ne C dX9_readsForm_6 (tgt := 11) (by decide) (fun c19 => ?_) (fun c19 => ?_)
    · exact absurd c19 (by decide)
    refine tw_iconst C dX9_readsForm_9 (v := nI 0) (by decide) ?_
    exact tw_ireturn C Q dX9_readsForm_10 rfl rfl rfl (Or.inr ⟨rfl, uFail_of (uFt_1 (by omega)) (by decide) rfl rfl rfl⟩)
theorem uA1_1 {b1 s : Nat} (h : b1 / 128 = 1) : uA1 b1 s = s + 3 := if_pos h
theorem uA1_0 {b1 s : Nat} (h : ¬ b1 / 128 = 1) : uA1 b1 s = s + 2 := if_neg h
theorem uCx_1 {bs : List Nat} {b1 s : Nat} (h : b1 / 128 = 1) : uCx bs b1 s = bs.getD (s + 2) 0 := if_pos h
theorem uCx_0 {bs : List Nat} {b1 s : Nat} (h : ¬ b1 / 128 = 1) : uCx bs b1 s = 0 := if_neg h
theorem uCx_lt {bs : List Nat} (hby : ∀ x ∈ bs, x < 256) (b1 s : Nat) : uCx bs b1 s < 256 := by
  unfold uCx; split
  · exact getD_in hby _
  · decide
theorem c_X9_readsContexts {G : tw_G} (hG : tw_cG G) {B : tw_S} {F : Nat → Int32} {pk : List Nat} {q : Nat} (hq : tw_isRow q = true) (hq10 : q ≠ 10) {bs : List Nat} (hbs : tw_R B q = bs) (hby : ∀ x ∈ bs, x < 256) (hlen : bs.length ≤ 640) {K : kN} (hK : KN B K) {s : Nat} {x8 : Int32} (hs : s < 2 ^ 20) (h1 : u1 bs s) (hF : UK F (s + 2) 0 0 (nI (bs.getD s 0)) (nI (bs.getD (s + 1) 0)) (nI 0) x8) : tw_M G yX9_readsContexts cX9_readsContexts 5 (some .boolean) 2 44 [.ref (tw_ad G 9), .ref (tw_ad G q)] (UF B F pk) ri_I (fun v S' => (u2 K bs s ∧ v = bI true ∧ uGo B S' (uA1 (bs.getD (s + 1) 0) s) (nI (bs.getD s 0)) (nI (bs.getD (s + 1) 0)) (nI (uCx bs (bs.getD (s + 1) 0) s)) x8 pk) ∨ (v = bI false ∧ uFail B S' (uFt K bs s))) := by
  refine tw_M.of (L := [(0, .ref (tw_ad G 9)), (1, .ref (tw_ad G q))]) (by decide) (Nat.le_of_ble_eq_true rfl) rfl (fun X C N Q => ?_)
  have C : tw_C G X cX9_readsContexts RX9 := C
  have hb0 := getD_in hby s
  have hb1 := getD_in hby (s + 1)
  have hb2 := getD_in hby (s + 2)
  have hcx := uCx_lt hby (bs.getD (s + 1) 0) s
  have hsl := h1.1
  have hsr : uSrc (bs.getD (s + 1) 0) < 8 := Nat.mod_lt _ (by decide)
  have hg : uGoal (bs.getD (s + 1) 0) < 16 := Nat.mod_lt _ (by decide)
  have hc16 : uCx bs (bs.getD (s + 1) 0) s / 16 < 16 := by omega
  have hcm : uCx bs (bs.getD (s + 1) 0) s % 16 < 16 := Nat.mod_lt _ (by decide)
  have k43 : uA1 (bs.getD (s + 1) 0) s ≤ bs.length → s + 2 ≤ uA1 (bs.getD (s + 1) 0) s → ∀ F1, UK F1 (uA1 (bs.getD (s + 1) 0) s) 0 0 (nI (bs.getD s 0)) (nI (bs.getD (s + 1) 0)) (nI (uCx bs (bs.getD (s + 1) 0) s)) x8 → TW G X (UF B F1 pk) [(2, .int (nI (uA1 (bs.getD (s + 1) 0) s - 1))), (0, .ref (tw_ad G 9)), (1, .ref (tw_ad G q))] 43 [] := by
    intro hle hge F1 hF1
    refine tw_aload_n C dX9_readsContexts_43 1 rfl ?_
    refine tw_callV (As := []) (rest := []) C N (c_X9_source hG (B := B) (F := F1) (pk := pk) (b1 := (bs.getD (s + 1) 0)) hF1.2.2.2.2.1 (by assumption)) mm_X9_source wd_398 rfl (hG 9 (by decide)) sh_9 rfl (by decide) rfl (Nat.le_of_ble_eq_true rfl) dX9_readsContexts_44 ?_
    rintro _ _ ⟨rfl, rfl⟩
    show TW G X (UF B F1 pk) [(2, .int (nI (uA1 (bs.getD (s + 1) 0) s - 1))), (0, .ref (tw_ad G 9)), (1, .ref (tw_ad G q))] 47 [.int (nI (uSrc ((bs.getD (s + 1) 0))))]
    refine tw_callS (As := [.int (nI (uSrc ((bs.getD (s + 1) 0))))]) (rest := []) C N (c_X4_usesContext hG (S := UF B F1 pk) (m := uSrc ((bs.getD (s + 1) 0))) (by omega)) mm_X4_usesContext wd_402 rfl (by decide) rfl (Nat.le_of_ble_eq_true rfl) dX9_readsContexts_47 ?_
    rintro _ _ ⟨rfl, rfl⟩
    show TW G X (UF B F1 pk) [(2, .int (nI (uA1 (bs.getD (s + 1) 0) s - 1))), (0, .ref (tw_ad G 9)), (1, .ref (tw_ad G q))] 50 [.int (bI (decide (4 < uSrc ((bs.getD (s + 1) 0)) ∧ uSrc ((bs.getD (s + 1) 0)) < 8)))]
    refine tb_if_eq C dX9_readsContexts_50 (tgt := 73) (by decide) (fun cs => ?_) (fun cs => ?_)
    · skip
      refine tw_iconst C dX9_readsContexts_73 (v := nI 0) (by decide) ?_
      refine tw_istore_n (L' := [(3, .int (nI 0)), (2, .int (nI (uA1 (bs.getD (s + 1) 0) s - 1))), (0, .ref (tw_ad G 9)), (1, .ref (tw_ad G q))]) C N dX9_readsContexts_74 rfl (by decide) rfl ?_
      refine tw_aload_n C dX9_readsContexts_75 2 rfl ?_
      refine tw_callV (As := []) (rest := []) C N (c_X9_goal hG (B := B) (F := F1) (pk := pk) (b1 := (bs.getD (s + 1) 0)) hF1.2.2.2.2.1 (by assumption)) mm_X9_goal wd_390 rfl (hG 9 (by decide)) sh_9 rfl (by decide) rfl (Nat.le_of_ble_eq_true rfl) dX9_readsContexts_76 ?_
      rintro _ _ ⟨rfl, rfl⟩
      show TW G X (UF B F1 pk) [(3, .int (nI 0)), (2, .int (nI (uA1 (bs.getD (s + 1) 0) s - 1))), (0, .ref (tw_ad G 9)), (1, .ref (tw_ad G q))] 79 [.int (nI (uGoal ((bs.getD (s + 1) 0))))]
      refine tw_callS (As := [.int (nI (uGoal ((bs.getD (s + 1) 0))))]) (rest := []) C N (c_X4_usesContext hG (S := UF B F1 pk) (m := uGoal ((bs.getD (s + 1) 0))) (by omega)) mm_X4_usesContext wd_402 rfl (by decide) rfl (Nat.le_of_ble_eq_true rfl) dX9_readsContexts_79 ?_
      rintro _ _ ⟨rfl, rfl⟩
      show TW G X (UF B F1 pk) [(3, .int (nI 0)), (2, .int (nI (uA1 (bs.getD (s + 1) 0) s - 1))), (0, .ref (tw_ad G 9)), (1, .ref (tw_ad G q))] 82 [.int (bI (decide (4 < uGoal ((bs.getD (s + 1) 0)) ∧ uGoal ((bs.getD (s + 1) 0)) < 8)))]
      refine tb_if_eq C dX9_readsContexts_82 (tgt := 106) (by decide) (fun cg => ?_) (fun cg => ?_)
      · skip
        refine tw_iconst C dX9_readsContexts_106 (v := nI 0) (by decide) ?_
        refine tw_istore (L' := [(4, .int (nI 0)), (3, .int (nI 0)), (2, .int (nI (uA1 (bs.getD (s + 1) 0) s - 1))), (0, .ref (tw_ad G 9)), (1, .ref (tw_ad G q))]) C N dX9_readsContexts_107 (i := 4) (by decide) rfl ?_
        refine tw_iload_n C dX9_readsContexts_109 1 rfl ?_
        refine tn_if_ne C dX9_readsContexts_110 (tgt := 118) (by decide) (by omega) (fun c5 => ?_) (fun c5 => ?_)
        · exact absurd c5 (by decide)
        refine tw_iload C dX9_readsContexts_113 0 rfl ?_
        refine tn_if_eq C dX9_readsContexts_115 (tgt := 127) (by decide) (by omega) (fun c6 => ?_) (fun c6 => ?_)
        · skip
          refine tw_iconst C dX9_readsContexts_127 (v := nI 1) (by decide) ?_
          refine tw_goto C dX9_readsContexts_128 (tgt := 132) (by decide) ?_
          exact tw_ireturn C Q dX9_readsContexts_132 rfl rfl rfl (Or.inl ⟨⟨h1, by omega, (by unfold uLack uses; first | (rw [cs, ct, cg, cu]; rfl) | (rw [cs, cg, cu]; rfl) | (rw [cs, ct, cg]; rfl) | (rw [cs, cg]; rfl))⟩, rfl, _, rfl, hF1⟩)
        · exact absurd c6 (by decide)
      · skip
        refine tw_aload_n C dX9_readsContexts_85 2 rfl ?_
        refine tw_getR (q := 5) (k := 0) C dX9_readsContexts_86 fc_X9 sh_9 (hG 9 (by decide)) rfl (by decide) wd_65 ?_
        refine tw_aload_n C dX9_readsContexts_89 2 rfl ?_
        refine tw_getI (v := nI (uCx bs (bs.getD (s + 1) 0) s)) (k := 7) C dX9_readsContexts_90 fc_X9 sh_9 (hG 9 (by decide)) rfl (by decide) wd_363 hF1.2.2.2.2.2.1 ?_
        refine tw_bipush C dX9_readsContexts_93 (v := nI 15) (by decide) ?_
        refine tw_iand C dX9_readsContexts_95 (v := nI ((uCx bs (bs.getD (s + 1) 0) s) % 16)) (nI_andm 4 (by decide)) ?_
        refine tw_callV (As := [.int (nI ((uCx bs (bs.getD (s + 1) 0) s) % 16))]) (rest := []) C N (c_X3_isThere hG (S := UF B F1 pk) hK (i := (uCx bs (bs.getD (s + 1) 0) s) % 16) (by omega)) mm_X3_isThere wd_403 rfl (hG 5 (by decide)) sh_5 rfl (by decide) rfl (Nat.le_of_ble_eq_true rfl) dX9_readsContexts_96 ?_
        rintro _ _ ⟨rfl, rfl⟩
        show TW G X (UF B F1 pk) [(3, .int (nI 0)), (2, .int (nI (uA1 (bs.getD (s + 1) 0) s - 1))), (0, .ref (tw_ad G 9)), (1, .ref (tw_ad G q))] 99 [.int (bI (decide ((uCx bs (bs.getD (s + 1) 0) s) % 16 < 16) && kT K ((uCx bs (bs.getD (s + 1) 0) s) % 16)))]
        refine tb_if_ne C dX9_readsContexts_99 (tgt := 106) (by decide) (fun cu => ?_) (fun cu => ?_)
        · simp only [hcm, decide_true, Bool.true_and] at cu
          refine tw_iconst C dX9_readsContexts_106 (v := nI 0) (by decide) ?_
          refine tw_istore (L' := [(4, .int (nI 0)), (3, .int (nI 0)), (2, .int (nI (uA1 (bs.getD (s + 1) 0) s - 1))), (0, .ref (tw_ad G 9)), (1, .ref (tw_ad G q))]) C N dX9_readsContexts_107 (i := 4) (by decide) rfl ?_
          refine tw_iload_n C dX9_readsContexts_109 1 rfl ?_
          refine tn_if_ne C dX9_readsContexts_110 (tgt := 118) (by decide) (by omega) (fun c8 => ?_) (fun c8 => ?_)
          · exact absurd c8 (by decide)
          refine tw_iload C dX9_readsContexts_113 0 rfl ?_
          refine tn_if_eq C dX9_readsContexts_115 (tgt := 127) (by decide) (by omega) (fun c9 => ?_) (fun c9 => ?_)
          · skip
            refine tw_iconst C dX9_readsContexts_127 (v := nI 1) (by decide) ?_
            refine tw_goto C dX9_readsContexts_128 (tgt := 132) (by decide) ?_
            exact tw_ireturn C Q dX9_readsContexts_132 rfl rfl rfl (Or.inl ⟨⟨h1, by omega, (by unfold uLack uses; first | (rw [cs, ct, cg, cu]; rfl) | (rw [cs, cg, cu]; rfl) | (rw [cs, ct, cg]; rfl) | (rw [cs, cg]; rfl))⟩, rfl, _, rfl, hF1⟩)
          · exact absurd c9 (by decide)
        · simp only [hcm, decide_true, Bool.true_and] at cu
          refine tw_iconst C dX9_readsContexts_102 (v := nI 1) (by decide) ?_
          refine tw_goto C dX9_readsContexts_103 (tgt := 107) (by decide) ?_
          refine tw_istore (L' := [(4, .int (nI 1)), (3, .int (nI 0)), (2, .int (nI (uA1 (bs.getD (s + 1) 0) s - 1))), (0, .ref (tw_ad G 9)), (1, .ref (tw_ad G q))]) C N dX9_readsContexts_107 (i := 4) (by decide) rfl ?_
          refine tw_iload_n C dX9_readsContexts_109 1 rfl ?_
          refine tn_if_ne C dX9_readsContexts_110 (tgt := 118) (by decide) (by omega) (fun c10 => ?_) (fun c10 => ?_)
          · exact absurd c10 (by decide)
          refine tw_iload C dX9_readsContexts_113 0 rfl ?_
          refine tn_if_eq C dX9_readsContexts_115 (tgt := 127) (by decide) (by omega) (fun c11 => ?_) (fun c11 => ?_)
          · exact absurd c11 (by decide)
          refine tw_aload_n C dX9_readsContexts_118 3 rfl ?_
          refine tw_iconst C dX9_readsContexts_119 (v := nI 4) (by decide) ?_
          refine tw_iload_n C dX9_readsContexts_120 2 rfl ?_
          refine tw_callV (As := [.int (nI 4), .int (nI (uA1 (bs.getD (s + 1) 0) s - 1))]) (rest := []) C N (c_X9_fails hG (B := B) (F := F1) (pk := pk) (f := 4) (p := uA1 (bs.getD (s + 1) 0) s - 1)) mm_X9_fails wd_381 rfl (hG 9 (by decide)) sh_9 rfl (by decide) rfl (Nat.le_of_ble_eq_true rfl) dX9_readsContexts_121 ?_
          rintro _ _ ⟨rfl, rfl⟩
          show TW G X (UF B (upd (upd F1 3 (nI 4)) 4 (nI (uA1 (bs.getD (s + 1) 0) s - 1))) pk) [(4, .int (nI 1)), (3, .int (nI 0)), (2, .int (nI (uA1 (bs.getD (s + 1) 0) s - 1))), (0, .ref (tw_ad G 9)), (1, .ref (tw_ad G q))] 124 [.int (bI false)]
          refine tb_if_eq C dX9_readsContexts_124 (tgt := 131) (by decide) (fun c13 => ?_) (fun c13 => ?_)
          · skip
            refine tw_iconst C dX9_readsContexts_131 (v := nI 0) (by decide) ?_
            exact tw_ireturn C Q dX9_readsContexts_132 rfl rfl rfl (Or.inr ⟨rfl, uFail_of (uFt_6 h1 (by omega) (by unfold uLack uses; first | (rw [cs, ct, cg, cu]; rfl) | (rw [cs, cg, cu]; rfl) | (rw [cs, ct, cg]; rfl) | (rw [cs, cg]; rfl))) (by decide) rfl rfl rfl⟩)
          · exact absurd c13 (by decide)
    · skip
      refine tw_aload_n C dX9_readsContexts_53 1 rfl ?_
      refine tw_getR (q := 5) (k := 0) C dX9_readsContexts_54 fc_X9 sh_9 (hG 9 (by decide)) rfl (by decide) wd_65 ?_
      refine tw_aload_n C dX9_readsContexts_57 1 rfl ?_
      refine tw_getI (v := nI (uCx bs (bs.getD (s + 1) 0) s)) (k := 7) C dX9_readsContexts_58 fc_X9 sh_9 (hG 9 (by decide)) rfl (by decide) wd_363 hF1.2.2.2.2.2.1 ?_
      refine tw_iconst C dX9_readsContexts_61 (v := nI 4) (by decide) ?_
      refine tw_ishr C dX9_readsContexts_62 (v := nI ((uCx bs (bs.getD (s + 1) 0) s) / 16)) (nI_shr (by omega) 4 (by decide)) ?_
      refine tw_callV (As := [.int (nI ((uCx bs (bs.getD (s + 1) 0) s) / 16))]) (rest := []) C N (c_X3_isThere hG (S := UF B F1 pk) hK (i := (uCx bs (bs.getD (s + 1) 0) s) / 16) (by omega)) mm_X3_isThere wd_403 rfl (hG 5 (by decide)) sh_5 rfl (by decide) rfl (Nat.le_of_ble_eq_true rfl) dX9_readsContexts_63 ?_
      rintro _ _ ⟨rfl, rfl⟩
      show TW G X (UF B F1 pk) [(2, .int (nI (uA1 (bs.getD (s + 1) 0) s - 1))), (0, .ref (tw_ad G 9)), (1, .ref (tw_ad G q))] 66 [.int (bI (decide ((uCx bs (bs.getD (s + 1) 0) s) / 16 < 16) && kT K ((uCx bs (bs.getD (s + 1) 0) s) / 16)))]
      refine tb_if_ne C dX9_readsContexts_66 (tgt := 73) (by decide) (fun ct => ?_) (fun ct => ?_)
      · simp only [hc16, decide_true, Bool.true_and] at ct
        refine tw_iconst C dX9_readsContexts_73 (v := nI 0) (by decide) ?_
        refine tw_istore_n (L' := [(3, .int (nI 0)), (2, .int (nI (uA1 (bs.getD (s + 1) 0) s - 1))), (0, .ref (tw_ad G 9)), (1, .ref (tw_ad G q))]) C N dX9_readsContexts_74 rfl (by decide) rfl ?_
        refine tw_aload_n C dX9_readsContexts_75 2 rfl ?_
        refine tw_callV (As := []) (rest := []) C N (c_X9_goal hG (B := B) (F := F1) (pk := pk) (b1 := (bs.getD (s + 1) 0)) hF1.2.2.2.2.1 (by assumption)) mm_X9_goal wd_390 rfl (hG 9 (by decide)) sh_9 rfl (by decide) rfl (Nat.le_of_ble_eq_true rfl) dX9_readsContexts_76 ?_
        rintro _ _ ⟨rfl, rfl⟩
        show TW G X (UF B F1 pk) [(3, .int (nI 0)), (2, .int (nI (uA1 (bs.getD (s + 1) 0) s - 1))), (0, .ref (tw_ad G 9)), (1, .ref (tw_ad G q))] 79 [.int (nI (uGoal ((bs.getD (s + 1) 0))))]
        refine tw_callS (As := [.int (nI (uGoal ((bs.getD (s + 1) 0))))]) (rest := []) C N (c_X4_usesContext hG (S := UF B F1 pk) (m := uGoal ((bs.getD (s + 1) 0))) (by omega)) mm_X4_usesContext wd_402 rfl (by decide) rfl (Nat.le_of_ble_eq_true rfl) dX9_readsContexts_79 ?_
        rintro _ _ ⟨rfl, rfl⟩
        show TW G X (UF B F1 pk) [(3, .int (nI 0)), (2, .int (nI (uA1 (bs.getD (s + 1) 0) s - 1))), (0, .ref (tw_ad G 9)), (1, .ref (tw_ad G q))] 82 [.int (bI (decide (4 < uGoal ((bs.getD (s + 1) 0)) ∧ uGoal ((bs.getD (s + 1) 0)) < 8)))]
        refine tb_if_eq C dX9_readsContexts_82 (tgt := 106) (by decide) (fun cg => ?_) (fun cg => ?_)
        · skip
          refine tw_iconst C dX9_readsContexts_106 (v := nI 0) (by decide) ?_
          refine tw_istore (L' := [(4, .int (nI 0)), (3, .int (nI 0)), (2, .int (nI (uA1 (bs.getD (s + 1) 0) s - 1))), (0, .ref (tw_ad G 9)), (1, .ref (tw_ad G q))]) C N dX9_readsContexts_107 (i := 4) (by decide) rfl ?_
          refine tw_iload_n C dX9_readsContexts_109 1 rfl ?_
          refine tn_if_ne C dX9_readsContexts_110 (tgt := 118) (by decide) (by omega) (fun c17 => ?_) (fun c17 => ?_)
          · exact absurd c17 (by decide)
          refine tw_iload C dX9_readsContexts_113 0 rfl ?_
          refine tn_if_eq C dX9_readsContexts_115 (tgt := 127) (by decide) (by omega) (fun c18 => ?_) (fun c18 => ?_)
          · skip
            refine tw_iconst C dX9_readsContexts_127 (v := nI 1) (by decide) ?_
            refine tw_goto C dX9_readsContexts_128 (tgt := 132) (by decide) ?_
            exact tw_ireturn C Q dX9_readsContexts_132 rfl rfl rfl (Or.inl ⟨⟨h1, by omega, (by unfold uLack uses; first | (rw [cs, ct, cg, cu]; rfl) | (rw [cs, cg, cu]; rfl) | (rw [cs, ct, cg]; rfl) | (rw [cs, cg]; rfl))⟩, rfl, _, rfl, hF1⟩)
          · exact absurd c18 (by decide)
        · skip
          refine tw_aload_n C dX9_readsContexts_85 2 rfl ?_
          refine tw_getR (q := 5) (k := 0) C dX9_readsContexts_86 fc_X9 sh_9 (hG 9 (by decide)) rfl (by decide) wd_65 ?_
          refine tw_aload_n C dX9_readsContexts_89 2 rfl ?_
          refine tw_getI (v := nI (uCx bs (bs.getD (s + 1) 0) s)) (k := 7) C dX9_readsContexts_90 fc_X9 sh_9 (hG 9 (by decide)) rfl (by decide) wd_363 hF1.2.2.2.2.2.1 ?_
          refine tw_bipush C dX9_readsContexts_93 (v := nI 15) (by decide) ?_
          refine tw_iand C dX9_readsContexts_95 (v := nI ((uCx bs (bs.getD (s + 1) 0) s) % 16)) (nI_andm 4 (by decide)) ?_
          refine tw_callV (As := [.int (nI ((uCx bs (bs.getD (s + 1) 0) s) % 16))]) (rest := []) C N (c_X3_isThere hG (S := UF B F1 pk) hK (i := (uCx bs (bs.getD (s + 1) 0) s) % 16) (by omega)) mm_X3_isThere wd_403 rfl (hG 5 (by decide)) sh_5 rfl (by decide) rfl (Nat.le_of_ble_eq_true rfl) dX9_readsContexts_96 ?_
          rintro _ _ ⟨rfl, rfl⟩
          show TW G X (UF B F1 pk) [(3, .int (nI 0)), (2, .int (nI (uA1 (bs.getD (s + 1) 0) s - 1))), (0, .ref (tw_ad G 9)), (1, .ref (tw_ad G q))] 99 [.int (bI (decide ((uCx bs (bs.getD (s + 1) 0) s) % 16 < 16) && kT K ((uCx bs (bs.getD (s + 1) 0) s) % 16)))]
          refine tb_if_ne C dX9_readsContexts_99 (tgt := 106) (by decide) (fun cu => ?_) (fun cu => ?_)
          · simp only [hcm, decide_true, Bool.true_and] at cu
            refine tw_iconst C dX9_readsContexts_106 (v := nI 0) (by decide) ?_
            refine tw_istore (L' := [(4, .int (nI 0)), (3, .int (nI 0)), (2, .int (nI (uA1 (bs.getD (s + 1) 0) s - 1))), (0, .ref (tw_ad G 9)), (1, .ref (tw_ad G q))]) C N dX9_readsContexts_107 (i := 4) (by decide) rfl ?_
            refine tw_iload_n C dX9_readsContexts_109 1 rfl ?_
            refine tn_if_ne C dX9_readsContexts_110 (tgt := 118) (by decide) (by omega) (fun c20 => ?_) (fun c20 => ?_)
            · exact absurd c20 (by decide)
            refine tw_iload C dX9_readsContexts_113 0 rfl ?_
            refine tn_if_eq C dX9_readsContexts_115 (tgt := 127) (by decide) (by omega) (fun c21 => ?_) (fun c21 => ?_)
            · skip
              refine tw_iconst C dX9_readsContexts_127 (v := nI 1) (by decide) ?_
              refine tw_goto C dX9_readsContexts_128 (tgt := 132) (by decide) ?_
              exact tw_ireturn C Q dX9_readsContexts_132 rfl rfl rfl (Or.inl ⟨⟨h1, by omega, (by unfold uLack uses; first | (rw [cs, ct, cg, cu]; rfl) | (rw [cs, cg, cu]; rfl) | (rw [cs, ct, cg]; rfl) | (rw [cs, cg]; rfl))⟩, rfl, _, rfl, hF1⟩)
            · exact absurd c21 (by decide)
          · simp only [hcm, decide_true, Bool.true_and] at cu
            refine tw_iconst C dX9_readsContexts_102 (v := nI 1) (by decide) ?_
            refine tw_goto C dX9_readsContexts_103 (tgt := 107) (by decide) ?_
            refine tw_istore (L' := [(4, .int (nI 1)), (3, .int (nI 0)), (2, .int (nI (uA1 (bs.getD (s + 1) 0) s - 1))), (0, .ref (tw_ad G 9)), (1, .ref (tw_ad G q))]) C N dX9_readsContexts_107 (i := 4) (by decide) rfl ?_
            refine tw_iload_n C dX9_readsContexts_109 1 rfl ?_
            refine tn_if_ne C dX9_readsContexts_110 (tgt := 118) (by decide) (by omega) (fun c22 => ?_) (fun c22 => ?_)
            · exact absurd c22 (by decide)
            refine tw_iload C dX9_readsContexts_113 0 rfl ?_
            refine tn_if_eq C dX9_readsContexts_115 (tgt := 127) (by decide) (by omega) (fun c23 => ?_) (fun c23 => ?_)
            · exact absurd c23 (by decide)
            refine tw_aload_n C dX9_readsContexts_118 3 rfl ?_
            refine tw_iconst C dX9_readsContexts_119 (v := nI 4) (by decide) ?_
            refine tw_iload_n C dX9_readsContexts_120 2 rfl ?_
            refine tw_callV (As := [.int (nI 4), .int (nI (uA1 (bs.getD (s + 1) 0) s - 1))]) (rest := []) C N (c_X9_fails hG (B := B) (F := F1) (pk := pk) (f := 4) (p := uA1 (bs.getD (s + 1) 0) s - 1)) mm_X9_fails wd_381 rfl (hG 9 (by decide)) sh_9 rfl (by decide) rfl (Nat.le_of_ble_eq_true rfl) dX9_readsContexts_121 ?_
            rintro _ _ ⟨rfl, rfl⟩
            show TW G X (UF B (upd (upd F1 3 (nI 4)) 4 (nI (uA1 (bs.getD (s + 1) 0) s - 1))) pk) [(4, .int (nI 1)), (3, .int (nI 0)), (2, .int (nI (uA1 (bs.getD (s + 1) 0) s - 1))), (0, .ref (tw_ad G 9)), (1, .ref (tw_ad G q))] 124 [.int (bI false)]
            refine tb_if_eq C dX9_readsContexts_124 (tgt := 131) (by decide) (fun c25 => ?_) (fun c25 => ?_)
            · skip
              refine tw_iconst C dX9_readsContexts_131 (v := nI 0) (by decide) ?_
              exact tw_ireturn C Q dX9_readsContexts_132 rfl rfl rfl (Or.inr ⟨rfl, uFail_of (uFt_6 h1 (by omega) (by unfold uLack uses; first | (rw [cs, ct, cg, cu]; rfl) | (rw [cs, cg, cu]; rfl) | (rw [cs, ct, cg]; rfl) | (rw [cs, cg]; rfl))) (by decide) rfl rfl rfl⟩)
            · exact absurd c25 (by decide)
      · simp only [hc16, decide_true, Bool.true_and] at ct
        refine tw_iconst C dX9_readsContexts_69 (v := nI 1) (by decide) ?_
        refine tw_goto C dX9_readsContexts_70 (tgt := 74) (by decide) ?_
        refine tw_istore_n (L' := [(3, .int (nI 1)), (2, .int (nI (uA1 (bs.getD (s + 1) 0) s - 1))), (0, .ref (tw_ad G 9)), (1, .ref (tw_ad G q))]) C N dX9_readsContexts_74 rfl (by decide) rfl ?_
        refine tw_aload_n C dX9_readsContexts_75 2 rfl ?_
        refine tw_callV (As := []) (rest := []) C N (c_X9_goal hG (B := B) (F := F1) (pk := pk) (b1 := (bs.getD (s + 1) 0)) hF1.2.2.2.2.1 (by assumption)) mm_X9_goal wd_390 rfl (hG 9 (by decide)) sh_9 rfl (by decide) rfl (Nat.le_of_ble_eq_true rfl) dX9_readsContexts_76 ?_
        rintro _ _ ⟨rfl, rfl⟩
        show TW G X (UF B F1 pk) [(3, .int (nI 1)), (2, .int (nI (uA1 (bs.getD (s + 1) 0) s - 1))), (0, .ref (tw_ad G 9)), (1, .ref (tw_ad G q))] 79 [.int (nI (uGoal ((bs.getD (s + 1) 0))))]
        refine tw_callS (As := [.int (nI (uGoal ((bs.getD (s + 1) 0))))]) (rest := []) C N (c_X4_usesContext hG (S := UF B F1 pk) (m := uGoal ((bs.getD (s + 1) 0))) (by omega)) mm_X4_usesContext wd_402 rfl (by decide) rfl (Nat.le_of_ble_eq_true rfl) dX9_readsContexts_79 ?_
        rintro _ _ ⟨rfl, rfl⟩
        show TW G X (UF B F1 pk) [(3, .int (nI 1)), (2, .int (nI (uA1 (bs.getD (s + 1) 0) s - 1))), (0, .ref (tw_ad G 9)), (1, .ref (tw_ad G q))] 82 [.int (bI (decide (4 < uGoal ((bs.getD (s + 1) 0)) ∧ uGoal ((bs.getD (s + 1) 0)) < 8)))]
        refine tb_if_eq C dX9_readsContexts_82 (tgt := 106) (by decide) (fun cg => ?_) (fun cg => ?_)
        · skip
          refine tw_iconst C dX9_readsContexts_106 (v := nI 0) (by decide) ?_
          refine tw_istore (L' := [(4, .int (nI 0)), (3, .int (nI 1)), (2, .int (nI (uA1 (bs.getD (s + 1) 0) s - 1))), (0, .ref (tw_ad G 9)), (1, .ref (tw_ad G q))]) C N dX9_readsContexts_107 (i := 4) (by decide) rfl ?_
          refine tw_iload_n C dX9_readsContexts_109 1 rfl ?_
          refine tn_if_ne C dX9_readsContexts_110 (tgt := 118) (by decide) (by omega) (fun c28 => ?_) (fun c28 => ?_)
          · skip
            refine tw_aload_n C dX9_readsContexts_118 3 rfl ?_
            refine tw_iconst C dX9_readsContexts_119 (v := nI 4) (by decide) ?_
            refine tw_iload_n C dX9_readsContexts_120 2 rfl ?_
            refine tw_callV (As := [.int (nI 4), .int (nI (uA1 (bs.getD (s + 1) 0) s - 1))]) (rest := []) C N (c_X9_fails hG (B := B) (F := F1) (pk := pk) (f := 4) (p := uA1 (bs.getD (s + 1) 0) s - 1)) mm_X9_fails wd_381 rfl (hG 9 (by decide)) sh_9 rfl (by decide) rfl (Nat.le_of_ble_eq_true rfl) dX9_readsContexts_121 ?_
            rintro _ _ ⟨rfl, rfl⟩
            show TW G X (UF B (upd (upd F1 3 (nI 4)) 4 (nI (uA1 (bs.getD (s + 1) 0) s - 1))) pk) [(4, .int (nI 0)), (3, .int (nI 1)), (2, .int (nI (uA1 (bs.getD (s + 1) 0) s - 1))), (0, .ref (tw_ad G 9)), (1, .ref (tw_ad G q))] 124 [.int (bI false)]
            refine tb_if_eq C dX9_readsContexts_124 (tgt := 131) (by decide) (fun c30 => ?_) (fun c30 => ?_)
            · skip
              refine tw_iconst C dX9_readsContexts_131 (v := nI 0) (by decide) ?_
              exact tw_ireturn C Q dX9_readsContexts_132 rfl rfl rfl (Or.inr ⟨rfl, uFail_of (uFt_6 h1 (by omega) (by unfold uLack uses; first | (rw [cs, ct, cg, cu]; rfl) | (rw [cs, cg, cu]; rfl) | (rw [cs, ct, cg]; rfl) | (rw [cs, cg]; rfl))) (by decide) rfl rfl rfl⟩)
            · exact absurd c30 (by decide)
          · exact absurd c28 (by decide)
        · skip
          refine tw_aload_n C dX9_readsContexts_85 2 rfl ?_
          refine tw_getR (q := 5) (k := 0) C dX9_readsContexts_86 fc_X9 sh_9 (hG 9 (by decide)) rfl (by decide) wd_65 ?_
          refine tw_aload_n C dX9_readsContexts_89 2 rfl ?_
          refine tw_getI (v := nI (uCx bs (bs.getD (s + 1) 0) s)) (k := 7) C dX9_readsContexts_90 fc_X9 sh_9 (hG 9 (by decide)) rfl (by decide) wd_363 hF1.2.2.2.2.2.1 ?_
          refine tw_bipush C dX9_readsContexts_93 (v := nI 15) (by decide) ?_
          refine tw_iand C dX9_readsContexts_95 (v := nI ((uCx bs (bs.getD (s + 1) 0) s) % 16)) (nI_andm 4 (by decide)) ?_
          refine tw_callV (As := [.int (nI ((uCx bs (bs.getD (s + 1) 0) s) % 16))]) (rest := []) C N (c_X3_isThere hG (S := UF B F1 pk) hK (i := (uCx bs (bs.getD (s + 1) 0) s) % 16) (by omega)) mm_X3_isThere wd_403 rfl (hG 5 (by decide)) sh_5 rfl (by decide) rfl (Nat.le_of_ble_eq_true rfl) dX9_readsContexts_96 ?_
          rintro _ _ ⟨rfl, rfl⟩
          show TW G X (UF B F1 pk) [(3, .int (nI 1)), (2, .int (nI (uA1 (bs.getD (s + 1) 0) s - 1))), (0, .ref (tw_ad G 9)), (1, .ref (tw_ad G q))] 99 [.int (bI (decide ((uCx bs (bs.getD (s + 1) 0) s) % 16 < 16) && kT K ((uCx bs (bs.getD (s + 1) 0) s) % 16)))]
          refine tb_if_ne C dX9_readsContexts_99 (tgt := 106) (by decide) (fun cu => ?_) (fun cu => ?_)
          · simp only [hcm, decide_true, Bool.true_and] at cu
            refine tw_iconst C dX9_readsContexts_106 (v := nI 0) (by decide) ?_
            refine tw_istore (L' := [(4, .int (nI 0)), (3, .int (nI 1)), (2, .int (nI (uA1 (bs.getD (s + 1) 0) s - 1))), (0, .ref (tw_ad G 9)), (1, .ref (tw_ad G q))]) C N dX9_readsContexts_107 (i := 4) (by decide) rfl ?_
            refine tw_iload_n C dX9_readsContexts_109 1 rfl ?_
            refine tn_if_ne C dX9_readsContexts_110 (tgt := 118) (by decide) (by omega) (fun c32 => ?_) (fun c32 => ?_)
            · skip
              refine tw_aload_n C dX9_readsContexts_118 3 rfl ?_
              refine tw_iconst C dX9_readsContexts_119 (v := nI 4) (by decide) ?_
              refine tw_iload_n C dX9_readsContexts_120 2 rfl ?_
              refine tw_callV (As := [.int (nI 4), .int (nI (uA1 (bs.getD (s + 1) 0) s - 1))]) (rest := []) C N (c_X9_fails hG (B := B) (F := F1) (pk := pk) (f := 4) (p := uA1 (bs.getD (s + 1) 0) s - 1)) mm_X9_fails wd_381 rfl (hG 9 (by decide)) sh_9 rfl (by decide) rfl (Nat.le_of_ble_eq_true rfl) dX9_readsContexts_121 ?_
              rintro _ _ ⟨rfl, rfl⟩
              show TW G X (UF B (upd (upd F1 3 (nI 4)) 4 (nI (uA1 (bs.getD (s + 1) 0) s - 1))) pk) [(4, .int (nI 0)), (3, .int (nI 1)), (2, .int (nI (uA1 (bs.getD (s + 1) 0) s - 1))), (0, .ref (tw_ad G 9)), (1, .ref (tw_ad G q))] 124 [.int (bI false)]
              refine tb_if_eq C dX9_readsContexts_124 (tgt := 131) (by decide) (fun c34 => ?_) (fun c34 => ?_)
              · skip
                refine tw_iconst C dX9_readsContexts_131 (v := nI 0) (by decide) ?_
                exact tw_ireturn C Q dX9_readsContexts_132 rfl rfl rfl (Or.inr ⟨rfl, uFail_of (uFt_6 h1 (by omega) (by unfold uLack uses; first | (rw [cs, ct, cg, cu]; rfl) | (rw [cs, cg, cu]; rfl) | (rw [cs, ct, cg]; rfl) | (rw [cs, cg]; rfl))) (by decide) rfl rfl rfl⟩)
              · exact absurd c34 (by decide)
            · exact absurd c32 (by decide)
          · simp only [hcm, decide_true, Bool.true_and] at cu
            refine tw_iconst C dX9_readsContexts_102 (v := nI 1) (by decide) ?_
            refine tw_goto C dX9_readsContexts_103 (tgt := 107) (by decide) ?_
            refine tw_istore (L' := [(4, .int (nI 1)), (3, .int (nI 1)), (2, .int (nI (uA1 (bs.getD (s + 1) 0) s - 1))), (0, .ref (tw_ad G 9)), (1, .ref (tw_ad G q))]) C N dX9_readsContexts_107 (i := 4) (by decide) rfl ?_
            refine tw_iload_n C dX9_readsContexts_109 1 rfl ?_
            refine tn_if_ne C dX9_readsContexts_110 (tgt := 118) (by decide) (by omega) (fun c35 => ?_) (fun c35 => ?_)
            · skip
              refine tw_aload_n C dX9_readsContexts_118 3 rfl ?_
              refine tw_iconst C dX9_readsContexts_119 (v := nI 4) (by decide) ?_
              refine tw_iload_n C dX9_readsContexts_120 2 rfl ?_
              refine tw_callV (As := [.int (nI 4), .int (nI (uA1 (bs.getD (s + 1) 0) s - 1))]) (rest := []) C N (c_X9_fails hG (B := B) (F := F1) (pk := pk) (f := 4) (p := uA1 (bs.getD (s + 1) 0) s - 1)) mm_X9_fails wd_381 rfl (hG 9 (by decide)) sh_9 rfl (by decide) rfl (Nat.le_of_ble_eq_true rfl) dX9_readsContexts_121 ?_
              rintro _ _ ⟨rfl, rfl⟩
              show TW G X (UF B (upd (upd F1 3 (nI 4)) 4 (nI (uA1 (bs.getD (s + 1) 0) s - 1))) pk) [(4, .int (nI 1)), (3, .int (nI 1)), (2, .int (nI (uA1 (bs.getD (s + 1) 0) s - 1))), (0, .ref (tw_ad G 9)), (1, .ref (tw_ad G q))] 124 [.int (bI false)]
              refine tb_if_eq C dX9_readsContexts_124 (tgt := 131) (by decide) (fun c37 => ?_) (fun c37 => ?_)
              · skip
                refine tw_iconst C dX9_readsContexts_131 (v := nI 0) (by decide) ?_
                exact tw_ireturn C Q dX9_readsContexts_132 rfl rfl rfl (Or.inr ⟨rfl, uFail_of (uFt_6 h1 (by omega) (by unfold uLack uses; first | (rw [cs, ct, cg, cu]; rfl) | (rw [cs, cg, cu]; rfl) | (rw [cs, ct, cg]; rfl) | (rw [cs, cg]; rfl))) (by decide) rfl rfl rfl⟩)
              · exact absurd c37 (by decide)
            · exact absurd c35 (by decide)
  refine tw_aload_n C dX9_readsContexts_0 0 rfl ?_
  refine tw_getI (v := nI (s + 2)) (k := 2) C dX9_readsContexts_1 fc_X9 sh_9 (hG 9 (by decide)) rfl (by decide) wd_360 hF.1 ?_
  refine tw_iconst C dX9_readsContexts_4 (v := nI 1) (by decide) ?_
  refine tw_isub C dX9_readsContexts_5 (v := nI ((s + 2) - 1)) (pk_sub (by omega)) ?_
  refine tw_istore_n (L' := [(2, .int (nI ((s + 2) - 1))), (0, .ref (tw_ad G 9)), (1, .ref (tw_ad G q))]) C N dX9_readsContexts_6 rfl (by decide) rfl ?_
  refine tw_aload_n C dX9_readsContexts_7 1 rfl ?_
  refine tw_getI (v := nI ((bs.getD (s + 1) 0))) (k := 6) C dX9_readsContexts_8 fc_X9 sh_9 (hG 9 (by decide)) rfl (by decide) wd_375 hF.2.2.2.2.1 ?_
  refine tw_bipush C dX9_readsContexts_11 (v := nI 7) (by decide) ?_
  refine tw_ishr C dX9_readsContexts_13 (v := nI (((bs.getD (s + 1) 0)) / 128)) (nI_shr (by omega) 7 (by decide)) ?_
  refine tw_iconst C dX9_readsContexts_14 (v := nI 1) (by decide) ?_
  refine tn_icmp_ne C dX9_readsContexts_15 (tgt := 43) (by decide) (by omega) (by omega) (fun c15 => ?_) (fun c15 => ?_)
  · skip
    refine TW.lL (L' := [(2, .int (nI (uA1 (bs.getD (s + 1) 0) s - 1))), (0, .ref (tw_ad G 9)), (1, .ref (tw_ad G q))]) (by rw [uA1_0 c15]; try rfl) ?_
    exact k43 (by first | (rw [uA1_1 c15]; omega) | (rw [uA1_0 c15]; omega)) (by first | (rw [uA1_1 c15]; omega) | (rw [uA1_0 c15]; omega)) _ ⟨by rw [uA1_0 c15]; first | exact hF.1 | rfl, hF.2.1, hF.2.2.1, hF.2.2.2.1, hF.2.2.2.2.1, by rw [uCx_0 c15]; first | rfl | exact hF.2.2.2.2.2.1, hF.2.2.2.2.2.2⟩
  · skip
    refine tw_aload_n C dX9_readsContexts_18 1 rfl ?_
    refine tw_aload_n C dX9_readsContexts_19 2 rfl ?_
    refine tw_iconst C dX9_readsContexts_20 (v := nI 1) (by decide) ?_
    refine tw_callV (As := [.ref (tw_ad G q), .int (nI 1)]) (rest := []) C N (c_X9_has hG (B := B) (F := F) (pk := pk) hq hq10 hbs hby hlen (a := s + 2) (m := 1) hF.1 (by omega) (by omega)) mm_X9_has wd_376 rfl (hG 9 (by decide)) sh_9 rfl (by decide) rfl (Nat.le_of_ble_eq_true rfl) dX9_readsContexts_21 ?_
    rintro _ _ (⟨hh1, rfl, rfl⟩ | ⟨hh1, rfl, rfl⟩)
    · show TW G X (UF B F pk) [(2, .int (nI ((s + 2) - 1))), (0, .ref (tw_ad G 9)), (1, .ref (tw_ad G q))] 24 [.int (bI true)]
      refine tb_if_ne C dX9_readsContexts_24 (tgt := 29) (by decide) (fun c3 => ?_) (fun c3 => ?_)
      · skip
        refine tw_aload_n C dX9_readsContexts_29 1 rfl ?_
        refine tw_getI (v := nI (s + 2)) (k := 2) C dX9_readsContexts_30 fc_X9 sh_9 (hG 9 (by decide)) rfl (by decide) wd_360 hF.1 ?_
        refine tw_istore_n (L' := [(2, .int (nI (s + 2))), (0, .ref (tw_ad G 9)), (1, .ref (tw_ad G q))]) C N dX9_readsContexts_33 rfl (by decide) rfl ?_
        refine tw_aload_n C dX9_readsContexts_34 1 rfl ?_
        refine tw_aload_n C dX9_readsContexts_35 1 rfl ?_
        refine tw_aload_n C dX9_readsContexts_36 2 rfl ?_
        refine tw_callV (As := [.ref (tw_ad G q)]) (rest := [.ref (tw_ad G 9)]) C N (c_X9_next hG (B := B) (F := F) (pk := pk) hq hq10 hbs hby hlen (a := s + 2) hF.1 (by omega)) mm_X9_next wd_386 rfl (hG 9 (by decide)) sh_9 rfl (by decide) rfl (Nat.le_of_ble_eq_true rfl) dX9_readsContexts_37 ?_
        rintro _ _ ⟨rfl, rfl⟩
        show TW G X (UF B (upd F 2 (nI (s + 2 + 1))) pk) [(2, .int (nI (s + 2))), (0, .ref (tw_ad G 9)), (1, .ref (tw_ad G q))] 40 [.int (nI (bs.getD (s + 2) 0)), .ref (tw_ad G 9)]
        refine tw_putI (k := 7) C dX9_readsContexts_40 fc_X9 sh_9 (hG 9 (by decide)) rfl (by decide) rfl wd_363 rfl rfl ?_
        refine TW.sS (S' := UF B (upd (upd F 2 (nI (s + 2 + 1))) 7 (nI (bs.getD (s + 2) 0))) pk) (UF_uI _ _ _ _ _) ?_
        refine TW.lL (L' := [(2, .int (nI (uA1 (bs.getD (s + 1) 0) s - 1))), (0, .ref (tw_ad G 9)), (1, .ref (tw_ad G q))]) (by rw [uA1_1 c15]; try rfl) ?_
        exact k43 (by first | (rw [uA1_1 c15]; omega) | (rw [uA1_0 c15]; omega)) (by first | (rw [uA1_1 c15]; omega) | (rw [uA1_0 c15]; omega)) _ ⟨by rw [uA1_1 c15]; first | exact hF.1 | rfl, hF.2.1, hF.2.2.1, hF.2.2.2.1, hF.2.2.2.2.1, by rw [uCx_1 c15]; first | rfl | exact hF.2.2.2.2.2.1, hF.2.2.2.2.2.2⟩
      · exact absurd c3 (by decide)
    · show TW G X (UF B (upd (upd F 3 (nI 1)) 4 (nI bs.length)) pk) [(2, .int (nI ((s + 2) - 1))), (0, .ref (tw_ad G 9)), (1, .ref (tw_ad G q))] 24 [.int (bI false)]
      refine tb_if_ne C dX9_readsContexts_24 (tgt := 29) (by decide) (fun c5 => ?_) (fun c5 => ?_)
      · exact absurd c5 (by decide)
      refine tw_iconst C dX9_readsContexts_27 (v := nI 0) (by decide) ?_
      exact tw_ireturn C Q dX9_readsContexts_28 rfl rfl rfl (Or.inr ⟨rfl, uFail_of (uFt_5 h1 (by rw [uA1_1 c15]; omega)) (by decide) rfl rfl rfl⟩)
