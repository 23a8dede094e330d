/-! the class's face -/
/-- what the class holds: what both ends know, tape, out, frames, what was told latest, heaps, clock, whole, dropped, late, anew -/
def CI (S : tw_S) (K : kN) (tp ot : List Nat) (fr : List (List Nat)) (T : Nat → Int32) (c : Nat → cH) (ck wh dr la an : Nat) : Prop := KN S K ∧ tw_R S 1 = tp ∧ tw_R S 3 = ot ∧ FRM S fr ∧ (∀ j, j < 8 → tw_A S 21 j = T j) ∧ HS S c ∧ tw_I S 19 2 = nI ck ∧ tw_I S 19 3 = nI wh ∧ tw_I S 19 4 = nI dr ∧ tw_I S 19 5 = nI la ∧ tw_I S 19 6 = nI an
def oSel (o : Option (List Nat)) (d : List Nat) : List Nat := match o with | some p => p.take 640 | none => d
section CS
variable {S S' : tw_S} {K : kN} {tp ot : List Nat} {fr : List (List Nat)} {T : Nat → Int32} {c : Nat → cH} {ck wh dr la an : Nat}
theorem CI_tp {x : List Nat} (h : CI S K tp ot fr T c ck wh dr la an) : CI (tw_uR S 1 x) K x ot fr T c ck wh dr la an := ⟨KN_of h.1 rfl rfl rfl, rfl, h.2.2.1, FRM_uR (by decide) h.2.2.2.1, h.2.2.2.2.1, HS_uR h.2.2.2.2.2.1 (by decide), h.2.2.2.2.2.2⟩
theorem CI_ot {x : List Nat} (h : CI S K tp ot fr T c ck wh dr la an) : CI (tw_uR S 3 x) K tp x fr T c ck wh dr la an := ⟨KN_of h.1 rfl rfl rfl, h.2.1, rfl, FRM_uR (by decide) h.2.2.2.1, h.2.2.2.2.1, HS_uR h.2.2.2.2.2.1 (by decide), h.2.2.2.2.2.2⟩
theorem CI_uw {x : List Nat} {F : Nat → Int32} (h : CI S K tp ot fr T c ck wh dr la an) : CI (UF S F x) K tp ot fr T c ck wh dr la an := ⟨KN_of h.1 rfl rfl rfl, h.2.1, h.2.2.1, ⟨h.2.2.2.1.1, h.2.2.2.1.2.1, fun k hk => (tq_uR_ne _ _ (by omega)).trans (h.2.2.2.1.2.2 k hk)⟩, h.2.2.2.2.1, HS_UF h.2.2.2.2.2.1, h.2.2.2.2.2.2⟩
theorem CI_tl {f : Nat → Int32} (h : CI S K tp ot fr T c ck wh dr la an) : CI (tw_wA S 21 f) K tp ot fr f c ck wh dr la an := ⟨h.1, h.2.1, h.2.2.1, h.2.2.2.1, fun _ _ => rfl, HS_of h.2.2.2.2.2.1 (fun i hi => ⟨rfl, rfl, by funext j; show (if 22 + 4 * i + 3 = 21 then f j else tw_A S (22 + 4 * i + 3) j) = _; rw [if_neg (by omega)]⟩), h.2.2.2.2.2.2⟩
theorem CI_fr {f2 : List (List Nat)} (h : CI S K tp ot fr T c ck wh dr la an) (hf : FRM S' f2) (hd : dS S S') : CI S' K tp ot f2 T c ck wh dr la an := ⟨dS_KN hd h.1, (hd.1 1 (by decide) (by decide) (by decide)).trans h.2.1, (hd.1 3 (by decide) (by decide) (by decide)).trans h.2.2.1, hf, fun j hj => by rw [hd.2.2.2.1]; exact h.2.2.2.2.1 j hj, HS_of h.2.2.2.2.2.1 (fun i hi => ⟨hd.1 _ (by omega) (by omega) (by omega), by funext k; exact hd.2.1 _ k (by omega), by rw [hd.2.2.2.1]⟩), (hd.2.1 19 2 (by decide)).trans h.2.2.2.2.2.2.1, (hd.2.1 19 3 (by decide)).trans h.2.2.2.2.2.2.2.1, (hd.2.1 19 4 (by decide)).trans h.2.2.2.2.2.2.2.2.1, (hd.2.1 19 5 (by decide)).trans h.2.2.2.2.2.2.2.2.2.1, (hd.2.1 19 6 (by decide)).trans h.2.2.2.2.2.2.2.2.2.2⟩
theorem CI_ck {x : Nat} (h : CI S K tp ot fr T c ck wh dr la an) : CI (tw_uI S 19 2 (nI x)) K tp ot fr T c x wh dr la an := ⟨h.1, h.2.1, h.2.2.1, h.2.2.2.1, h.2.2.2.2.1, HS_19 h.2.2.2.2.2.1, rfl, h.2.2.2.2.2.2.2⟩
def kCtx (K : kN) (i : Nat) (t : Bool) (v : Nat) : kN := (fun j => if j = i then t else kT K j, fun j => if j = i then v else kV K j, kO K)
def kLnk (K : kN) (w v : Nat) : kN := (kT K, kV K, fun j => if j = w then v else kO K j)
theorem KN_ctx {i v : Nat} {t : Bool} (h : KN S K) (hv : v < 2 ^ 64) : KN (tw_uB (tw_uA S 6 i (bI t)) 7 i (lN v)) (kCtx K i t v) := by
  refine ⟨fun j hj => ?_, fun j hj => ?_, h.2.2.1, h.2.2.2.1, ⟨fun j => ?_, h.2.2.2.2.2⟩⟩
  · show tw_A (tw_uA S 6 i (bI t)) 6 j = bI (if j = i then t else kT K j)
    rw [tq_A_uA]
    by_cases hji : j = i
    · simp [hji]
    · simp only [hji, and_false, if_false]; exact h.1 j hj
  · show tw_B (tw_uB (tw_uA S 6 i (bI t)) 7 i (lN v)) 7 j = lN (if j = i then v else kV K j)
    rw [tq_B_uB]
    by_cases hji : j = i
    · simp [hji]
    · simp only [hji, and_false, if_false]; exact h.2.1 j hj
  · show (if j = i then v else kV K j) < 2 ^ 64
    split
    · exact hv
    · exact h.2.2.2.2.1 j
theorem KN_lnk0 {v : Nat} (h : KN S K) (hv : v < 2 ^ 64) : KN (tw_uJ S 5 2 (lN v)) (kLnk K 0 v) := ⟨h.1, h.2.1, rfl, h.2.2.2.1, h.2.2.2.2.1, fun j => by show (if j = 0 then v else kO K j) < 2 ^ 64; split; exact hv; exact h.2.2.2.2.2 j⟩
theorem KN_lnk1 {v : Nat} (h : KN S K) (hv : v < 2 ^ 64) : KN (tw_uJ S 5 3 (lN v)) (kLnk K 1 v) := ⟨h.1, h.2.1, h.2.2.1, rfl, h.2.2.2.2.1, fun j => by show (if j = 1 then v else kO K j) < 2 ^ 64; split; exact hv; exact h.2.2.2.2.2 j⟩
theorem CI_ctx {i v : Nat} {t : Bool} (h : CI S K tp ot fr T c ck wh dr la an) (hv : v < 2 ^ 64) : CI (tw_uB (tw_uA S 6 i (bI t)) 7 i (lN v)) (kCtx K i t v) tp ot fr T c ck wh dr la an := ⟨KN_ctx h.1 hv, h.2.1, h.2.2.1, h.2.2.2.1, h.2.2.2.2.1, HS_of h.2.2.2.2.2.1 (fun a ha => ⟨rfl, rfl, by funext j; show tw_A (tw_uA S 6 i (bI t)) _ j = _; rw [tq_A_uA, if_neg (by omega)]⟩), h.2.2.2.2.2.2⟩
theorem CI_lnk0 {v : Nat} (h : CI S K tp ot fr T c ck wh dr la an) (hv : v < 2 ^ 64) : CI (tw_uJ S 5 2 (lN v)) (kLnk K 0 v) tp ot fr T c ck wh dr la an := ⟨KN_lnk0 h.1 hv, h.2.1, h.2.2.1, h.2.2.2.1, h.2.2.2.2.1, HS_of h.2.2.2.2.2.1 (fun a ha => ⟨rfl, rfl, rfl⟩), h.2.2.2.2.2.2⟩
theorem CI_lnk1 {v : Nat} (h : CI S K tp ot fr T c ck wh dr la an) (hv : v < 2 ^ 64) : CI (tw_uJ S 5 3 (lN v)) (kLnk K 1 v) tp ot fr T c ck wh dr la an := ⟨KN_lnk1 h.1 hv, h.2.1, h.2.2.1, h.2.2.2.1, h.2.2.2.2.1, HS_of h.2.2.2.2.2.1 (fun a ha => ⟨rfl, rfl, rfl⟩), h.2.2.2.2.2.2⟩
theorem CI_ls {R : lR} {v : Int32} (h : CI S K tp ot fr T c ck wh dr la an) (g : lsP S ck la an wh dr R v S') : CI S' K tp (oSel R.2.2.2.2 ot) fr T R.2.2.2.1 ck (wh + (if R.1 = 2 then 1 else 0)) (dr + (if R.1 = 0 then 1 else 0)) (la + R.2.1) (an + R.2.2.1) := by
  obtain ⟨g1, g2, g3, g4, g5, g6, g7, g8, g9⟩ := g
  have hA6 := g9.2.2.2.1 6 (by decide)
  refine ⟨⟨fun i hi => by rw [hA6]; exact h.1.1 i hi, fun i hi => by rw [g9.2.2.2.2]; exact h.1.2.1 i hi, by rw [g9.2.2.1]; exact h.1.2.2.1, by rw [g9.2.2.1]; exact h.1.2.2.2.1, h.1.2.2.2.2⟩, (g9.1 1 (by decide) (by decide) (by decide)).trans h.2.1, ?_, ⟨h.2.2.2.1.1, (g9.2.1 12 1 (by decide) (by decide) (by decide)).trans h.2.2.2.1.2.1, fun k hk => (g9.1 _ (by omega) (by omega) (by omega)).trans (h.2.2.2.1.2.2 k hk)⟩, fun j hj => by rw [g9.2.2.2.1 21 (by decide)]; exact h.2.2.2.2.1 j hj, g2, g3, g4, g5, g6, g7⟩
  rw [g8, h.2.2.1]
  cases R.2.2.2.2 <;> rfl
end CS
theorem nI_m1 {i : Nat} (h : i < 2 ^ 32) : nI i = -1 ↔ i = 4294967295 := nI_inj (b := 4294967295) h (by decide)
def bOL (xs : List Nat) (i : Nat) : Int32 := if i = 4294967295 then nI xs.length else if i < xs.length then nI (xs.getD i 0) else -1
theorem c_X10_isOutside {G : tw_G} (hG : tw_cG G) {S : tw_S} {i m : Nat} (hi : i < 2 ^ 32) (hm : m < 2 ^ 31) : tw_M G yX10_isOutside cX10_isOutside 2 (some .boolean) 0 0 [.int (nI i), .int (nI m)] S ri_I (fun v S' => v = bI (decide (m < i)) ∧ S = S') := by
  refine tw_M.of (L := [(0, .int (nI i)), (1, .int (nI m))]) (by decide) (Nat.le_of_ble_eq_true rfl) rfl (fun X C N Q => ?_)
  have C : tw_C G X cX10_isOutside RX10 := C
  rcases Nat.lt_or_ge i (2 ^ 31) with hi1 | hi1
  · skip
    refine tw_iload_n C dX10_isOutside_0 0 rfl ?_
    refine tn_if_lt C dX10_isOutside_1 (tgt := 9) (by decide) (by omega) (fun c1 => ?_) (fun c1 => ?_)
    · exact absurd c1 id
    refine tw_iload_n C dX10_isOutside_4 0 rfl ?_
    refine tw_iload_n C dX10_isOutside_5 1 rfl ?_
    refine tn_icmp_le C dX10_isOutside_6 (tgt := 13) (by decide) (by omega) (by omega) (fun c2 => ?_) (fun c2 => ?_)
    · skip
      refine tw_iconst C dX10_isOutside_13 (v := nI 0) (by decide) ?_
      exact tw_ireturn C Q dX10_isOutside_14 rfl rfl rfl ⟨bI_of_f (by omega), rfl⟩
    · skip
      refine tw_iconst C dX10_isOutside_9 (v := nI 1) (by decide) ?_
      refine tw_goto C dX10_isOutside_10 (tgt := 14) (by decide) ?_
      exact tw_ireturn C Q dX10_isOutside_14 rfl rfl rfl ⟨bI_of_t (by omega), rfl⟩
  · have hneg := nI_neg hi1 hi
    refine tw_iload_n C dX10_isOutside_0 0 rfl ?_
    refine tw_if_lt C dX10_isOutside_1 (tgt := 9) (by decide) (fun c1 => ?_) (fun c1 => ?_)
    · skip
      refine tw_iconst C dX10_isOutside_9 (v := nI 1) (by decide) ?_
      refine tw_goto C dX10_isOutside_10 (tgt := 14) (by decide) ?_
      exact tw_ireturn C Q dX10_isOutside_14 rfl rfl rfl ⟨bI_of_t (by omega), rfl⟩
    · exact absurd hneg c1
theorem c_X10_byteOrLength {G : tw_G} (hG : tw_cG G) {S : tw_S} {r : Nat} (hr : tw_isRow r = true) {xs : List Nat} (hx : tw_R S r = xs) {i : Nat} (hi : i < 2 ^ 32) : tw_M G yX10_byteOrLength cX10_byteOrLength 2 (some .int) 1 21 [.ref (tw_ad G r), .int (nI i)] S ri_I (fun v S' => v = bOL xs i ∧ S = S') := by
  refine tw_M.of (L := [(0, .ref (tw_ad G r)), (1, .int (nI i))]) (by decide) (Nat.le_of_ble_eq_true rfl) rfl (fun X C N Q => ?_)
  have C : tw_C G X cX10_byteOrLength RX10 := C
  refine tw_iload_n C dX10_byteOrLength_0 1 rfl ?_
  refine tw_iconst C dX10_byteOrLength_1 (v := (-1)) (by decide) ?_
  refine tw_icmp_ne C dX10_byteOrLength_2 (tgt := 10) (by decide) (fun cm => ?_) (fun cm => ?_)
  · skip
    refine tw_aload_n C dX10_byteOrLength_10 0 rfl ?_
    refine tw_iload_n C dX10_byteOrLength_11 1 rfl ?_
    refine tw_callV (As := [.int (nI i)]) (rest := []) C N (e_X7_has hG (S := S) hr (xs := xs) hx (i := i) (by omega)) mm_X7_has wd_575 rfl (hG _ (tw_row_lt hr).2) (tw_row_sh hr) rfl (by decide) rfl (Nat.le_of_ble_eq_true rfl) dX10_byteOrLength_12 ?_
    rintro _ _ ⟨rfl, rfl⟩
    show TW G X S [(0, .ref (tw_ad G r)), (1, .int (nI i))] 15 [.int (bI (decide (i < xs.length)))]
    refine tb_if_eq C dX10_byteOrLength_15 (tgt := 26) (by decide) (fun chh => ?_) (fun chh => ?_)
    · skip
      refine tw_iconst C dX10_byteOrLength_26 (v := (-1)) (by decide) ?_
      exact tw_ireturn C Q dX10_byteOrLength_27 rfl rfl rfl ⟨by rw [bOL, if_neg (by rw [← nI_m1 hi]; exact cm), if_neg (of_decide_eq_false chh)], rfl⟩
    · skip
      refine tw_aload_n C dX10_byteOrLength_18 0 rfl ?_
      refine tw_iload_n C dX10_byteOrLength_19 1 rfl ?_
      refine tw_callV (As := [.int (nI i)]) (rest := []) C N (e_X7_at hG (S := S) hr (xs := xs) hx (i := i) (by omega)) mm_X7_at wd_579 rfl (hG _ (tw_row_lt hr).2) (tw_row_sh hr) rfl (by decide) rfl (Nat.le_of_ble_eq_true rfl) dX10_byteOrLength_20 ?_
      rintro _ _ ⟨rfl, rfl⟩
      show TW G X S [(0, .ref (tw_ad G r)), (1, .int (nI i))] 23 [.int (nI (xs.getD i 0))]
      refine tw_goto C dX10_byteOrLength_23 (tgt := 27) (by decide) ?_
      exact tw_ireturn C Q dX10_byteOrLength_27 rfl rfl rfl ⟨by rw [bOL, if_neg (by rw [← nI_m1 hi]; exact cm), if_pos (of_decide_eq_true chh)], rfl⟩
  · skip
    refine tw_aload_n C dX10_byteOrLength_5 0 rfl ?_
    refine tw_callV (As := []) (rest := []) C N (e_X7_length hG (S := S) hr (xs := xs) hx ) mm_X7_length wd_183 rfl (hG _ (tw_row_lt hr).2) (tw_row_sh hr) rfl (by decide) rfl (Nat.le_of_ble_eq_true rfl) dX10_byteOrLength_6 ?_
    rintro _ _ ⟨rfl, rfl⟩
    show TW G X S [(0, .ref (tw_ad G r)), (1, .int (nI i))] 9 [.int (nI xs.length)]
    exact tw_ireturn C Q dX10_byteOrLength_9 rfl rfl rfl ⟨by rw [bOL, if_pos ((nI_m1 hi).mp cm)], rfl⟩
theorem c_X10_context {G : tw_G} (hG : tw_cG G) {S : tw_S} {K : kN} {tp ot : List Nat} {fr : List (List Nat)} {T : Nat → Int32} {c : Nat → cH} {ck wh dr la an : Nat} (hC : CI S K tp ot fr T c ck wh dr la an) {i : Nat} (hi : i < 2 ^ 32) {t : Bool} {u : Nat} (hu : u < 2 ^ 64) : tw_M G yX10_context cX10_context 6 (some .int) 1 24 [.ref (tw_ad G 0), .int (nI i), .int (bI t), .long (lN u)] S ri_I (fun v S' => if i < 16 then v = bI (kT K i) ∧ CI S' (kCtx K i t u) tp ot fr T c ck wh dr la an else v = -1 ∧ S = S') := by
  refine tw_M.of (L := [(0, .ref (tw_ad G 0)), (1, .int (nI i)), (2, .int (bI t)), (3, .long (lN u))]) (by decide) (Nat.le_of_ble_eq_true rfl) rfl (fun X C N Q => ?_)
  have C : tw_C G X cX10_context RX10 := C
  rcases Nat.lt_or_ge i (2 ^ 31) with hi1 | hi1
  · skip
    refine tw_iload_n C dX10_context_0 1 rfl ?_
    refine tn_if_lt C dX10_context_1 (tgt := 10) (by decide) (by omega) (fun c1 => ?_) (fun c1 => ?_)
    · exact absurd c1 id
    refine tw_iload_n C dX10_context_4 1 rfl ?_
    refine tw_bipush C dX10_context_5 (v := nI 16) (by decide) ?_
    refine tn_icmp_lt C dX10_context_7 (tgt := 12) (by decide) (by omega) (by omega) (fun c2 => ?_) (fun c2 => ?_)
    · skip
      refine tw_aload_n C dX10_context_12 0 rfl ?_
      refine tw_getR (q := 5) (k := 2) C dX10_context_13 fc_X10 sh_0 (hG 0 (by decide)) rfl (by decide) wd_28 ?_
      refine tw_iload_n C dX10_context_16 1 rfl ?_
      refine tw_callV (As := [.int (nI i)]) (rest := []) C N (c_X3_isThere hG (S := S) hC.1 (i := i) (by omega)) mm_X3_isThere wd_133 rfl (hG 5 (by decide)) sh_5 rfl (by decide) rfl (Nat.le_of_ble_eq_true rfl) dX10_context_17 ?_
      rintro _ _ ⟨rfl, rfl⟩
      show TW G X S [(0, .ref (tw_ad G 0)), (1, .int (nI i)), (2, .int (bI t)), (3, .long (lN u))] 20 [.int (bI (decide (i < 16) && kT K i))]
      refine tw_istore (L' := [(5, .int (bI (decide (i < 16) && kT K i))), (0, .ref (tw_ad G 0)), (1, .int (nI i)), (2, .int (bI t)), (3, .long (lN u))]) C N dX10_context_20 (i := 5) (by decide) rfl ?_
      refine tw_aload_n C dX10_context_22 1 rfl ?_
      refine tw_getR (q := 5) (k := 2) C dX10_context_23 fc_X10 sh_0 (hG 0 (by decide)) rfl (by decide) wd_28 ?_
      refine tw_iload_n C dX10_context_26 2 rfl ?_
      refine tw_iload_n C dX10_context_27 3 rfl ?_
      refine tw_lload_n C dX10_context_28 4 rfl ?_
      refine tw_callV (As := [.int (nI i), .int (bI t), .long (lN u)]) (rest := []) C N (c_X3_setContext hG (S := S) (i := i) (t := t) (v := u) (by omega)) mm_X3_setContext wd_137 rfl (hG 5 (by decide)) sh_5 rfl (by decide) rfl (Nat.le_of_ble_eq_true rfl) dX10_context_29 ?_
      rintro _ _ rfl
      show TW G X (tw_uB (tw_uA S 6 i (bI t)) 7 i (lN u)) [(5, .int (bI (decide (i < 16) && kT K i))), (0, .ref (tw_ad G 0)), (1, .int (nI i)), (2, .int (bI t)), (3, .long (lN u))] 32 []
      refine tw_iload C dX10_context_32 0 rfl ?_
      refine tb_if_eq C dX10_context_34 (tgt := 41) (by decide) (fun cw => ?_) (fun cw => ?_)
      · rw [decide_eq_true (show i < 16 by omega), Bool.true_and] at cw
        refine tw_iconst C dX10_context_41 (v := nI 0) (by decide) ?_
        exact tw_ireturn C Q dX10_context_42 rfl rfl rfl (by rw [if_pos (by omega)]; exact ⟨by rw [cw]; rfl, CI_ctx hC hu⟩)
      · rw [decide_eq_true (show i < 16 by omega), Bool.true_and] at cw
        refine tw_iconst C dX10_context_37 (v := nI 1) (by decide) ?_
        refine tw_goto C dX10_context_38 (tgt := 42) (by decide) ?_
        exact tw_ireturn C Q dX10_context_42 rfl rfl rfl (by rw [if_pos (by omega)]; exact ⟨by rw [cw]; rfl, CI_ctx hC hu⟩)
    · skip
      refine tw_iconst C dX10_context_10 (v := (-1)) (by decide) ?_
      exact tw_ireturn C Q dX10_context_11 rfl rfl rfl (by rw [if_neg (by omega)]; exact ⟨rfl, rfl⟩)
  · have hneg := nI_neg hi1 hi
    refine tw_iload_n C dX10_context_0 1 rfl ?_
    refine tw_if_lt C dX10_context_1 (tgt := 10) (by decide) (fun c1 => ?_) (fun c1 => ?_)
    · skip
      refine tw_iconst C dX10_context_10 (v := (-1)) (by decide) ?_
      exact tw_ireturn C Q dX10_context_11 rfl rfl rfl (by rw [if_neg (by omega)]; exact ⟨rfl, rfl⟩)
    · exact absurd hneg c1
theorem lnk_lt {t : Bool} {u : Nat} (hu : u < 2 ^ 64) : (if t then u ^^^ 144115188075855872 else 1099478073344 ||| u % 65536) < 2 ^ 64 := by
  split
  · exact Nat.xor_lt_two_pow hu (by decide)
  · exact Nat.or_lt_two_pow (by decide) (by omega)
theorem c_X10_link {G : tw_G} (hG : tw_cG G) {S : tw_S} {K : kN} {tp ot : List Nat} {fr : List (List Nat)} {T : Nat → Int32} {c : Nat → cH} {ck wh dr la an : Nat} (hC : CI S K tp ot fr T c ck wh dr la an) {i : Nat} (hi : i < 2 ^ 32) {t : Bool} {u : Nat} (hu : u < 2 ^ 64) : tw_M G yX10_link cX10_link 5 (some .int) 1 26 [.ref (tw_ad G 0), .int (nI i), .int (bI t), .long (lN u)] S ri_I (fun v S' => if i < 2 then v = 1 ∧ CI S' (kLnk K i (if t then u ^^^ 144115188075855872 else 1099478073344 ||| u % 65536)) tp ot fr T c ck wh dr la an else v = -1 ∧ S = S') := by
  refine tw_M.of (L := [(0, .ref (tw_ad G 0)), (1, .int (nI i)), (2, .int (bI t)), (3, .long (lN u))]) (by decide) (Nat.le_of_ble_eq_true rfl) rfl (fun X C N Q => ?_)
  have C : tw_C G X cX10_link RX10 := C
  rcases Nat.lt_or_ge i 2 with hi2 | hi2
  · rcases (show i = 0 ∨ i = 1 by omega) with rfl | rfl
    · skip
      refine tw_iload_n C dX10_link_0 1 rfl ?_
      refine tn_if_eq C dX10_link_1 (tgt := 11) (by decide) (by omega) (fun c1 => ?_) (fun c1 => ?_)
      · skip
        refine tw_aload_n C dX10_link_11 0 rfl ?_
        refine tw_getR (q := 5) (k := 2) C dX10_link_12 fc_X10 sh_0 (hG 0 (by decide)) rfl (by decide) wd_28 ?_
        refine tw_iload_n C dX10_link_15 1 rfl ?_
        refine tw_iload_n C dX10_link_16 2 rfl ?_
        refine tw_lload_n C dX10_link_17 3 rfl ?_
        refine tw_callV (As := [.int (nI 0), .int (bI t), .long (lN u)]) (rest := []) C N (c_X3_setLink0 hG (S := S) (t := t) (v := u)) mm_X3_setLink wd_123 rfl (hG 5 (by decide)) sh_5 rfl (by decide) rfl (Nat.le_of_ble_eq_true rfl) dX10_link_18 ?_
        rintro _ _ rfl
        show TW G X (tw_uJ S 5 2 (lN (if t then u ^^^ 144115188075855872 else 1099478073344 ||| u % 65536))) [(0, .ref (tw_ad G 0)), (1, .int (nI 0)), (2, .int (bI t)), (3, .long (lN u))] 21 []
        refine tw_iconst C dX10_link_21 (v := nI 1) (by decide) ?_
        exact tw_ireturn C Q dX10_link_22 rfl rfl rfl (by rw [if_pos (by decide)]; exact ⟨rfl, CI_lnk0 hC (lnk_lt hu)⟩)
      · exact absurd c1 (by decide)
    · skip
      refine tw_iload_n C dX10_link_0 1 rfl ?_
      refine tn_if_eq C dX10_link_1 (tgt := 11) (by decide) (by omega) (fun c1 => ?_) (fun c1 => ?_)
      · exact absurd c1 (by decide)
      refine tw_iload_n C dX10_link_4 1 rfl ?_
      refine tw_iconst C dX10_link_5 (v := nI 1) (by decide) ?_
      refine tn_icmp_eq C dX10_link_6 (tgt := 11) (by decide) (by omega) (by omega) (fun c2 => ?_) (fun c2 => ?_)
      · skip
        refine tw_aload_n C dX10_link_11 0 rfl ?_
        refine tw_getR (q := 5) (k := 2) C dX10_link_12 fc_X10 sh_0 (hG 0 (by decide)) rfl (by decide) wd_28 ?_
        refine tw_iload_n C dX10_link_15 1 rfl ?_
        refine tw_iload_n C dX10_link_16 2 rfl ?_
        refine tw_lload_n C dX10_link_17 3 rfl ?_
        refine tw_callV (As := [.int (nI 1), .int (bI t), .long (lN u)]) (rest := []) C N (c_X3_setLink1 hG (S := S) (t := t) (v := u)) mm_X3_setLink wd_123 rfl (hG 5 (by decide)) sh_5 rfl (by decide) rfl (Nat.le_of_ble_eq_true rfl) dX10_link_18 ?_
        rintro _ _ rfl
        show TW G X (tw_uJ S 5 3 (lN (if t then u ^^^ 144115188075855872 else 1099478073344 ||| u % 65536))) [(0, .ref (tw_ad G 0)), (1, .int (nI 1)), (2, .int (bI t)), (3, .long (lN u))] 21 []
        refine tw_iconst C dX10_link_21 (v := nI 1) (by decide) ?_
        exact tw_ireturn C Q dX10_link_22 rfl rfl rfl (by rw [if_pos (by decide)]; exact ⟨rfl, CI_lnk1 hC (lnk_lt hu)⟩)
      · exact absurd c2 (by decide)
  · skip
    refine tw_iload_n C dX10_link_0 1 rfl ?_
    refine tw_if_eq C dX10_link_1 (tgt := 11) (by decide) (fun c1 => ?_) (fun c1 => ?_)
    · exact absurd ((nI_inj (b := 0) hi (by decide)).mp c1) (by omega)
    refine tw_iload_n C dX10_link_4 1 rfl ?_
    refine tw_iconst C dX10_link_5 (v := nI 1) (by decide) ?_
    refine tw_icmp_eq C dX10_link_6 (tgt := 11) (by decide) (fun c6 => ?_) (fun c6 => ?_)
    · exact absurd ((nI_inj (b := 1) hi (by decide)).mp c6) (by omega)
    refine tw_iconst C dX10_link_9 (v := (-1)) (by decide) ?_
    exact tw_ireturn C Q dX10_link_10 rfl rfl rfl (by rw [if_neg (by omega)]; exact ⟨rfl, rfl⟩)
theorem c_X10_type {G : tw_G} (hG : tw_cG G) {S : tw_S} {K : kN} {tp ot : List Nat} {fr : List (List Nat)} {T : Nat → Int32} {c : Nat → cH} {ck wh dr la an : Nat} (hC : CI S K tp ot fr T c ck wh dr la an) {i : Nat} (hi : i < 2 ^ 32) {u : Nat} (hu : u < 2 ^ 64) : tw_M G yX10_type cX10_type 4 (some .int) 2 45 [.ref (tw_ad G 0), .long (lN u), .int (nI i)] S ri_I (fun v S' => if 1 ≤ i ∧ i ≤ 8 then (if i + tp.length ≤ 640 then v = nI (tp ++ be u i).length ∧ CI S' K (tp ++ be u i) ot fr T c ck wh dr la an else v = -3 ∧ S = S') else v = -1 ∧ S = S') := by
  refine tw_M.of (L := [(0, .ref (tw_ad G 0)), (1, .long (lN u)), (3, .int (nI i))]) (by decide) (Nat.le_of_ble_eq_true rfl) rfl (fun X C N Q => ?_)
  have C : tw_C G X cX10_type RX10 := C
  rcases Nat.lt_or_ge i (2 ^ 31) with hi1 | hi1
  · skip
    refine tw_iload_n C dX10_type_0 2 rfl ?_
    refine tw_iconst C dX10_type_1 (v := nI 1) (by decide) ?_
    refine tn_icmp_lt C dX10_type_2 (tgt := 11) (by decide) (by omega) (by omega) (fun c1 => ?_) (fun c1 => ?_)
    · skip
      refine tw_iconst C dX10_type_11 (v := (-1)) (by decide) ?_
      exact tw_ireturn C Q dX10_type_12 rfl rfl rfl (by rw [if_neg (by omega)]; exact ⟨rfl, rfl⟩)
    · skip
      refine tw_iload_n C dX10_type_5 2 rfl ?_
      refine tw_bipush C dX10_type_6 (v := nI 8) (by decide) ?_
      refine tn_icmp_le C dX10_type_8 (tgt := 13) (by decide) (by omega) (by omega) (fun c2 => ?_) (fun c2 => ?_)
      · skip
        refine tw_aload_n C dX10_type_13 0 rfl ?_
        refine tw_getR (q := 1) (k := 0) C dX10_type_14 fc_X10 sh_0 (hG 0 (by decide)) rfl (by decide) wd_26 ?_
        refine tw_iload_n C dX10_type_17 2 rfl ?_
        refine tw_callV (As := [.int (nI i)]) (rest := []) C N (e_X7_takes hG (S := S) tw_row1 hC.2.1 (i := i) (by omega)) mm_X7_takes wd_165 rfl (hG 1 (by decide)) sh_1 rfl (by decide) rfl (Nat.le_of_ble_eq_true rfl) dX10_type_18 ?_
        rintro _ _ ⟨rfl, rfl⟩
        show TW G X S [(0, .ref (tw_ad G 0)), (1, .long (lN u)), (3, .int (nI i))] 21 [.int (bI (decide (i + tp.length ≤ 640)))]
        refine tb_if_ne C dX10_type_21 (tgt := 27) (by decide) (fun cw => ?_) (fun cw => ?_)
        · skip
          refine tw_aload_n C dX10_type_27 0 rfl ?_
          refine tw_getR (q := 1) (k := 0) C dX10_type_28 fc_X10 sh_0 (hG 0 (by decide)) rfl (by decide) wd_26 ?_
          refine tw_lload_n C dX10_type_31 1 rfl ?_
          refine tw_iload_n C dX10_type_32 2 rfl ?_
          refine tw_callV (As := [.long (lN u), .int (nI i)]) (rest := []) C N (e_X7_addNumber hG (S := S) tw_row1 (xs := tp) hC.2.1 (v := u) (i := i) (by omega) (by omega)) mm_X7_addNumber wd_174 rfl (hG 1 (by decide)) sh_1 rfl (by decide) rfl (Nat.le_of_ble_eq_true rfl) dX10_type_33 ?_
          rintro _ _ rfl
          show TW G X (tw_uR S 1 ((tp ++ be u i).take (tw_cap 1))) [(0, .ref (tw_ad G 0)), (1, .long (lN u)), (3, .int (nI i))] 36 []
          refine TW.sS (S' := tw_uR S 1 (tp ++ be u i)) (by rw [List.take_of_length_le (show _ ≤ tw_cap 1 by have := of_decide_eq_true cw; simp only [List.length_append, be_len, List.length_cons, List.length_nil]; show _ ≤ 640; omega)]) ?_
          refine tw_aload_n C dX10_type_36 0 rfl ?_
          refine tw_getR (q := 1) (k := 0) C dX10_type_37 fc_X10 sh_0 (hG 0 (by decide)) rfl (by decide) wd_26 ?_
          refine tw_callV (As := []) (rest := []) C N (e_X7_length hG (S := tw_uR S 1 (tp ++ be u i)) tw_row1 (xs := tp ++ be u i) rfl ) mm_X7_length wd_183 rfl (hG 1 (by decide)) sh_1 rfl (by decide) rfl (Nat.le_of_ble_eq_true rfl) dX10_type_40 ?_
          rintro _ _ ⟨rfl, rfl⟩
          show TW G X (tw_uR S 1 (tp ++ be u i)) [(0, .ref (tw_ad G 0)), (1, .long (lN u)), (3, .int (nI i))] 43 [.int (nI ((tp ++ be u i).length))]
          exact tw_ireturn C Q dX10_type_43 rfl rfl rfl (by rw [if_pos (by omega), if_pos (of_decide_eq_true cw)]; exact ⟨rfl, CI_tp hC⟩)
        · skip
          refine tw_bipush C dX10_type_24 (v := (-3)) (by decide) ?_
          exact tw_ireturn C Q dX10_type_26 rfl rfl rfl (by rw [if_pos (by omega), if_neg (of_decide_eq_false cw)]; exact ⟨rfl, rfl⟩)
      · skip
        refine tw_iconst C dX10_type_11 (v := (-1)) (by decide) ?_
        exact tw_ireturn C Q dX10_type_12 rfl rfl rfl (by rw [if_neg (by omega)]; exact ⟨rfl, rfl⟩)
  · have hneg := nI_neg hi1 hi
    refine tw_iload_n C dX10_type_0 2 rfl ?_
    refine tw_iconst C dX10_type_1 (v := nI 1) (by decide) ?_
    refine tw_icmp_lt C dX10_type_2 (tgt := 11) (by decide) (fun c2 => ?_) (fun c2 => ?_)
    · skip
      refine tw_iconst C dX10_type_11 (v := (-1)) (by decide) ?_
      exact tw_ireturn C Q dX10_type_12 rfl rfl rfl (by rw [if_neg (by omega)]; exact ⟨rfl, rfl⟩)
    · exact absurd (nI_negle hi1 hi (by decide)) c2
theorem c_X10_cut {G : tw_G} (hG : tw_cG G) {S : tw_S} {K : kN} {tp ot : List Nat} {fr : List (List Nat)} {T : Nat → Int32} {c : Nat → cH} {ck wh dr la an : Nat} (hC : CI S K tp ot fr T c ck wh dr la an) {i : Nat} (hi : i < 2 ^ 32) (htl : tp.length ≤ 640) : tw_M G yX10_cut cX10_cut 3 (some .int) 1 21 [.ref (tw_ad G 0), .int (nI i)] S ri_I (fun v S' => if i ≤ tp.length then v = nI (tp.length - i) ∧ CI S' K (tp.take i) ot fr T c ck wh dr la an else v = -1 ∧ S = S') := by
  refine tw_M.of (L := [(0, .ref (tw_ad G 0)), (1, .int (nI i))]) (by decide) (Nat.le_of_ble_eq_true rfl) rfl (fun X C N Q => ?_)
  have C : tw_C G X cX10_cut RX10 := C
  refine tw_aload_n C dX10_cut_0 0 rfl ?_
  refine tw_getR (q := 1) (k := 0) C dX10_cut_1 fc_X10 sh_0 (hG 0 (by decide)) rfl (by decide) wd_26 ?_
  refine tw_callV (As := []) (rest := []) C N (e_X7_length hG (S := S) tw_row1 (xs := tp) hC.2.1 ) mm_X7_length wd_183 rfl (hG 1 (by decide)) sh_1 rfl (by decide) rfl (Nat.le_of_ble_eq_true rfl) dX10_cut_4 ?_
  rintro _ _ ⟨rfl, rfl⟩
  show TW G X S [(0, .ref (tw_ad G 0)), (1, .int (nI i))] 7 [.int (nI tp.length)]
  refine tw_istore_n (L' := [(2, .int (nI tp.length)), (0, .ref (tw_ad G 0)), (1, .int (nI i))]) C N dX10_cut_7 rfl (by decide) rfl ?_
  refine tw_iload_n C dX10_cut_8 2 rfl ?_
  refine tw_iload_n C dX10_cut_9 0 rfl ?_
  refine tw_callS (As := [.int (nI i), .int (nI tp.length)]) (rest := []) C N (c_X10_isOutside hG (S := S) (i := i) (m := tp.length) (by omega) (by omega)) mm_X10_isOutside wd_162 rfl (by decide) rfl (Nat.le_of_ble_eq_true rfl) dX10_cut_10 ?_
  rintro _ _ ⟨rfl, rfl⟩
  show TW G X S [(2, .int (nI tp.length)), (0, .ref (tw_ad G 0)), (1, .int (nI i))] 13 [.int (bI (decide (tp.length < i)))]
  refine tb_if_eq C dX10_cut_13 (tgt := 18) (by decide) (fun cw => ?_) (fun cw => ?_)
  · have cw2 := of_decide_eq_false cw
    refine tw_aload_n C dX10_cut_18 1 rfl ?_
    refine tw_getR (q := 1) (k := 0) C dX10_cut_19 fc_X10 sh_0 (hG 0 (by decide)) rfl (by decide) wd_26 ?_
    refine tw_iload_n C dX10_cut_22 2 rfl ?_
    refine tw_callV (As := [.int (nI i)]) (rest := []) C N (e_X7_shorten hG (S := S) tw_row1 (xs := tp) hC.2.1 (i := i) (by omega)) mm_X7_shorten wd_561 rfl (hG 1 (by decide)) sh_1 rfl (by decide) rfl (Nat.le_of_ble_eq_true rfl) dX10_cut_23 ?_
    rintro _ _ rfl
    show TW G X (tw_uR S 1 (tp.take i)) [(2, .int (nI tp.length)), (0, .ref (tw_ad G 0)), (1, .int (nI i))] 26 []
    refine tw_iload_n C dX10_cut_26 0 rfl ?_
    refine tw_iload_n C dX10_cut_27 2 rfl ?_
    refine tw_isub C dX10_cut_28 (v := nI (tp.length - i)) (pk_sub (by omega)) ?_
    exact tw_ireturn C Q dX10_cut_29 rfl rfl rfl (by rw [if_pos (by have := of_decide_eq_false cw; omega)]; exact ⟨rfl, CI_tp hC⟩)
  · skip
    refine tw_iconst C dX10_cut_16 (v := (-1)) (by decide) ?_
    exact tw_ireturn C Q dX10_cut_17 rfl rfl rfl (by rw [if_neg (by have := of_decide_eq_true cw; omega)]; exact ⟨rfl, rfl⟩)
theorem c_X10_out {G : tw_G} (hG : tw_cG G) {S : tw_S} {K : kN} {tp ot : List Nat} {fr : List (List Nat)} {T : Nat → Int32} {c : Nat → cH} {ck wh dr la an : Nat} (hC : CI S K tp ot fr T c ck wh dr la an) {i : Nat} (hi : i < 2 ^ 32) : tw_M G yX10_out cX10_out 2 (some .int) 2 42 [.ref (tw_ad G 0), .int (nI i)] S ri_I (fun v S' => v = bOL ot i ∧ S = S') := by
  refine tw_M.of (L := [(0, .ref (tw_ad G 0)), (1, .int (nI i))]) (by decide) (Nat.le_of_ble_eq_true rfl) rfl (fun X C N Q => ?_)
  have C : tw_C G X cX10_out RX10 := C
  refine tw_aload_n C dX10_out_0 0 rfl ?_
  refine tw_getR (q := 3) (k := 1) C dX10_out_1 fc_X10 sh_0 (hG 0 (by decide)) rfl (by decide) wd_27 ?_
  refine tw_iload_n C dX10_out_4 1 rfl ?_
  refine tw_callS (As := [.ref (tw_ad G 3), .int (nI i)]) (rest := []) C N (c_X10_byteOrLength hG (S := S) tw_row3 (xs := ot) hC.2.2.1 (i := i) (by omega)) mm_X10_byteOrLength wd_572 rfl (by decide) rfl (Nat.le_of_ble_eq_true rfl) dX10_out_5 ?_
  rintro _ _ ⟨rfl, rfl⟩
  show TW G X S [(0, .ref (tw_ad G 0)), (1, .int (nI i))] 8 [.int (bOL ot i)]
  exact tw_ireturn C Q dX10_out_8 rfl rfl rfl ⟨rfl, rfl⟩
theorem uPk_le {K : kN} {bs : List Nat} {s : Nat} (h : (uF K bs s none).1 = 0) : (uPk K bs s none).length ≤ 600 := by
  have h1 : ¬ 560 < uBe bs s none := by
    intro hx
    unfold uF at h
    split at h
    · contradiction
    · first | exact absurd h (by simp) | (rw [if_pos hx] at h; exact absurd h (by simp))
  unfold uPk uHd
  unfold uBe at h1
  simp only [List.length_append, be_len, uAd_len, cutD_len, List.length_cons, List.length_nil]
  split
  · rename_i hp
    simp only [hp, if_true] at h1
    simp only [List.length_append, be_len]
    omega
  · rename_i hp
    simp only [hp, if_false] at h1
    simp only [List.length_nil]
    omega
theorem tT_cg {f g : Nat → Int32} {x0 x1 x2 x3 x4 x5 x6 x7 : Int32} (j : Nat) (h : j < 8) : tT f x0 x1 x2 x3 x4 x5 x6 x7 j = tT g x0 x1 x2 x3 x4 x5 x6 x7 j := by
  unfold tT upd
  rcases (show j = 0 ∨ j = 1 ∨ j = 2 ∨ j = 3 ∨ j = 4 ∨ j = 5 ∨ j = 6 ∨ j = 7 by omega) with rfl | rfl | rfl | rfl | rfl | rfl | rfl | rfl <;> rfl
theorem CI_cgT {S : tw_S} {K : kN} {tp ot : List Nat} {fr : List (List Nat)} {T T' : Nat → Int32} {c : Nat → cH} {ck wh dr la an : Nat} (h : CI S K tp ot fr T c ck wh dr la an) (g : ∀ j, j < 8 → T j = T' j) : CI S K tp ot fr T' c ck wh dr la an := ⟨h.1, h.2.1, h.2.2.1, h.2.2.2.1, fun j hj => (h.2.2.2.2.1 j hj).trans (g j hj), h.2.2.2.2.2⟩
/-- what is told of a well unfolded row -/
def tlW (bs : List Nat) : Nat → Int32 := tT (fun _ => 0) (nI 0) (nI 0) (nI (uTF (bs.getD 0 0))) (nI (bs.getD 1 0 / 128)) (nI (uSrc (bs.getD 1 0))) (nI (uGoal (bs.getD 1 0))) (if uPo (bs.getD 0 0) then nI (uFm bs (bs.getD 0 0) (bs.getD 1 0) 0 - 240) else -2) (nI (uA7 bs (bs.getD 0 0) (bs.getD 1 0) 0))
def tlF (ft : Nat × Nat) : Nat → Int32 := tT (fun _ => 0) (nI ft.1) (nI ft.2) (nI 0) (nI 0) (nI 0) (nI 0) (nI 0) (nI 0)
theorem ite_7 {p : Prop} [Decidable p] {a b : Nat × Nat} (ha : a.1 ≤ 7) (hb : b.1 ≤ 7) : (if p then a else b).1 ≤ 7 := by
  split
  · exact ha
  · exact hb
theorem uFt_lt (K : kN) (bs : List Nat) (s : Nat) : (uFt K bs s).1 ≤ 7 := by
  unfold uFt
  dsimp only
  repeat' apply ite_7
  all_goals exact Nat.le_of_ble_eq_true rfl
theorem uF_le (K : kN) (bs : List Nat) (s : Nat) (o : Option Nat) : (uF K bs s o).1 ≤ 7 := by
  unfold uF
  split
  · exact uFt_lt K bs s
  · split <;> simp
/-- what slicing answers, and the frames there are then -/
def slA (o : Option (List (List Nat))) : Int32 := match o with | some fs => nI fs.length | none => -3
def slF (o : Option (List (List Nat))) (fr : List (List Nat)) : List (List Nat) := match o with | some fs => fs | none => fr
theorem dv_CI {S S' : tw_S} {K : kN} {tp ot : List Nat} {fr : List (List Nat)} {T : Nat → Int32} {c : Nat → cH} {ck wh dr la an : Nat} (hC : CI S K tp ot fr T c ck wh dr la an) {o : Option (List (List Nat))} {v : Int32} (h : match o with | some fs => v = nI fs.length ∧ FRM S' fs ∧ dS S S' | none => v = -3 ∧ FRM S' fr ∧ dS S S') : v = slA o ∧ CI S' K tp ot (slF o fr) T c ck wh dr la an := by
  cases o with
  | none => exact ⟨h.1, CI_fr hC h.2.1 h.2.2⟩
  | some fs => exact ⟨h.1, CI_fr hC h.2.1 h.2.2⟩
theorem c_X10_slice {G : tw_G} (hG : tw_cG G) {S : tw_S} {K : kN} {tp ot : List Nat} {fr : List (List Nat)} {T : Nat → Int32} {c : Nat → cH} {ck wh dr la an : Nat} (hC : CI S K tp ot fr T c ck wh dr la an) {i : Nat} (hi : i < 2 ^ 32) {g : Nat} (hg : g < 2 ^ 32) : tw_M G yX10_slice cX10_slice 3 (some .int) 6 157 [.ref (tw_ad G 0), .int (nI i), .int (nI g)] S ri_I (fun v S' => if 40 ≤ i ∧ i ≤ 120 ∧ g ≤ 65535 then (if isPkB tp = true then v = slA (cutA (sqAll K tp) (sqHd K tp).length (pkH tp) tp i g) ∧ CI S' K tp ot (slF (cutA (sqAll K tp) (sqHd K tp).length (pkH tp) tp i g) fr) T c ck wh dr la an else v = -2 ∧ S = S') else v = -1 ∧ S = S') := by
  refine tw_M.of (L := [(0, .ref (tw_ad G 0)), (1, .int (nI i)), (2, .int (nI g))]) (by decide) (Nat.le_of_ble_eq_true rfl) rfl (fun X C N Q => ?_)
  have C : tw_C G X cX10_slice RX10 := C
  rcases Nat.lt_or_ge i (2 ^ 31) with hi1 | hi1
  · skip
    refine tw_iload_n C dX10_slice_0 1 rfl ?_
    refine tw_bipush C dX10_slice_1 (v := nI 40) (by decide) ?_
    refine tn_icmp_lt C dX10_slice_3 (tgt := 21) (by decide) (by omega) (by omega) (fun c1 => ?_) (fun c1 => ?_)
    · skip
      refine tw_iconst C dX10_slice_21 (v := (-1)) (by decide) ?_
      exact tw_ireturn C Q dX10_slice_22 rfl rfl rfl (by rw [if_neg (by omega)]; exact ⟨rfl, rfl⟩)
    · skip
      refine tw_iload_n C dX10_slice_6 1 rfl ?_
      refine tw_bipush C dX10_slice_7 (v := nI 120) (by decide) ?_
      refine tn_icmp_gt C dX10_slice_9 (tgt := 21) (by decide) (by omega) (by omega) (fun c2 => ?_) (fun c2 => ?_)
      · skip
        refine tw_iconst C dX10_slice_21 (v := (-1)) (by decide) ?_
        exact tw_ireturn C Q dX10_slice_22 rfl rfl rfl (by rw [if_neg (by omega)]; exact ⟨rfl, rfl⟩)
      · skip
        refine tw_iload_n C dX10_slice_12 2 rfl ?_
        refine tw_ldc C dX10_slice_13 wd_195 (w := nI 65535) (by decide) ?_
        refine tw_callS (As := [.int (nI g), .int (nI 65535)]) (rest := []) C N (c_X10_isOutside hG (S := S) (i := g) (m := 65535) (by omega) (by omega)) mm_X10_isOutside wd_162 rfl (by decide) rfl (Nat.le_of_ble_eq_true rfl) dX10_slice_15 ?_
        rintro _ _ ⟨rfl, rfl⟩
        show TW G X S [(0, .ref (tw_ad G 0)), (1, .int (nI i)), (2, .int (nI g))] 18 [.int (bI (decide (65535 < g)))]
        refine tb_if_eq C dX10_slice_18 (tgt := 23) (by decide) (fun cg => ?_) (fun cg => ?_)
        · skip
          refine tw_aload_n C dX10_slice_23 0 rfl ?_
          refine tw_getR (q := 1) (k := 0) C dX10_slice_24 fc_X10 sh_0 (hG 0 (by decide)) rfl (by decide) wd_26 ?_
          refine tw_callS (As := [.ref (tw_ad G 1)]) (rest := []) C N (c_X5_isPacket hG (S := S) tw_row1 (xs := tp) hC.2.1) mm_X5_isPacket wd_196 rfl (by decide) rfl (Nat.le_of_ble_eq_true rfl) dX10_slice_27 ?_
          rintro _ _ ⟨rfl, rfl⟩
          show TW G X S [(0, .ref (tw_ad G 0)), (1, .int (nI i)), (2, .int (nI g))] 30 [.int (bI (isPkB tp))]
          refine tb_if_ne C dX10_slice_30 (tgt := 36) (by decide) (fun cw => ?_) (fun cw => ?_)
          · have hpk := (isPkB_iff _).mp cw
            refine tw_aload_n C dX10_slice_36 0 rfl ?_
            refine tw_getR (q := 14) (k := 6) C dX10_slice_37 fc_X10 sh_0 (hG 0 (by decide)) rfl (by decide) wd_38 ?_
            refine tw_aload_n C dX10_slice_40 0 rfl ?_
            refine tw_getR (q := 1) (k := 0) C dX10_slice_41 fc_X10 sh_0 (hG 0 (by decide)) rfl (by decide) wd_26 ?_
            refine tw_iload_n C dX10_slice_44 1 rfl ?_
            refine tw_iload_n C dX10_slice_45 2 rfl ?_
            refine tw_aload_n C dX10_slice_46 0 rfl ?_
            refine tw_getR (q := 12) (k := 5) C dX10_slice_47 fc_X10 sh_0 (hG 0 (by decide)) rfl (by decide) wd_34 ?_
            refine tw_callV (As := [.ref (tw_ad G 1), .int (nI i), .int (nI g), .ref (tw_ad G 12)]) (rest := []) C N (c_X0_divide hG (S := S) hC.1 (xs := tp) hC.2.1 ⟨hpk.1, hpk.2.1⟩ (fr := fr) hC.2.2.2.1 (size := i) (tag := g) ⟨by omega, by omega⟩ (by have := of_decide_eq_false cg; omega)) mm_X0_divide wd_209 rfl (hG 14 (by decide)) sh_14 rfl (by decide) rfl (Nat.le_of_ble_eq_true rfl) dX10_slice_50 ?_
            rintro v S2 hd
            show TW G X S2 [(0, .ref (tw_ad G 0)), (1, .int (nI i)), (2, .int (nI g))] 53 [.int v]
            exact tw_ireturn C Q dX10_slice_53 rfl rfl rfl (by rw [if_pos ⟨by omega, by omega, by have := of_decide_eq_false cg; omega⟩, if_pos cw]; exact dv_CI hC hd)
          · skip
            refine tw_bipush C dX10_slice_33 (v := (-2)) (by decide) ?_
            exact tw_ireturn C Q dX10_slice_35 rfl rfl rfl (by rw [if_pos ⟨by omega, by omega, by have := of_decide_eq_false cg; omega⟩, if_neg (by rw [cw]; decide)]; exact ⟨rfl, rfl⟩)
        · skip
          refine tw_iconst C dX10_slice_21 (v := (-1)) (by decide) ?_
          exact tw_ireturn C Q dX10_slice_22 rfl rfl rfl (by rw [if_neg (by have := of_decide_eq_true cg; omega)]; exact ⟨rfl, rfl⟩)
  · have hneg := nI_neg hi1 hi
    refine tw_iload_n C dX10_slice_0 1 rfl ?_
    refine tw_bipush C dX10_slice_1 (v := nI 40) (by decide) ?_
    refine tw_icmp_lt C dX10_slice_3 (tgt := 21) (by decide) (fun c3 => ?_) (fun c3 => ?_)
    · skip
      refine tw_iconst C dX10_slice_21 (v := (-1)) (by decide) ?_
      exact tw_ireturn C Q dX10_slice_22 rfl rfl rfl (by rw [if_neg (by omega)]; exact ⟨rfl, rfl⟩)
    · exact absurd (nI_negle hi1 hi (by decide)) c3
theorem CI_st {S : tw_S} {K : kN} {tp ot : List Nat} {fr : List (List Nat)} {T : Nat → Int32} {c : Nat → cH} {ck wh dr la an k : Nat} {x : List Nat} (h : CI S K tp ot fr T c ck wh dr la an) (hk : k < fr.length) : CI (tw_uR S (34 + 2 * k) x) K tp ot (fr.set k x) T c ck wh dr la an := CI_fr h (FRM_set h.2.2.2.1 hk) (dS_uR (dS_rf S) (Or.inr (Or.inr (by omega))))
theorem CI_ps {S : tw_S} {K : kN} {tp ot : List Nat} {fr : List (List Nat)} {T : Nat → Int32} {c : Nat → cH} {ck wh dr la an : Nat} {x : List Nat} (h : CI S K tp ot fr T c ck wh dr la an) (hk : fr.length < 40) : CI (tw_uI (tw_uR S (34 + 2 * fr.length) x) 12 1 (nI (fr.length + 1))) K tp ot (fr ++ [x]) T c ck wh dr la an := CI_fr h (FRM_push h.2.2.2.1 hk) (dS_uI (dS_uR (dS_rf S) (Or.inr (Or.inr (by omega)))))
/-- what putting answers, and the frames -/
def putA (tp : List Nat) (fr : List (List Nat)) (k : Nat) : Int32 × List (List Nat) := if fr.length < k then (-1, fr) else if tp.length = 0 ∨ 120 < tp.length then (-2, fr) else if k < fr.length then (nI fr.length, fr.set k tp) else if fr.length < 40 then (nI (fr.length + 1), fr ++ [tp]) else (-3, fr)
theorem c_X10_put {G : tw_G} (hG : tw_cG G) {S : tw_S} {K : kN} {tp ot : List Nat} {fr : List (List Nat)} {T : Nat → Int32} {c : Nat → cH} {ck wh dr la an : Nat} (hC : CI S K tp ot fr T c ck wh dr la an) {k : Nat} (hk : k < 2 ^ 32) (htl : tp.length ≤ 640) : tw_M G yX10_put cX10_put 2 (some .int) 4 88 [.ref (tw_ad G 0), .int (nI k)] S ri_I (fun v S' => v = (putA tp fr k).1 ∧ CI S' K tp ot ((putA tp fr k).2) T c ck wh dr la an) := by
  refine tw_M.of (L := [(0, .ref (tw_ad G 0)), (1, .int (nI k))]) (by decide) (Nat.le_of_ble_eq_true rfl) rfl (fun X C N Q => ?_)
  have C : tw_C G X cX10_put RX10 := C
  have h40 := hC.2.2.2.1.1
  refine tw_iload_n C dX10_put_0 1 rfl ?_
  refine tw_aload_n C dX10_put_1 0 rfl ?_
  refine tw_getR (q := 12) (k := 5) C dX10_put_2 fc_X10 sh_0 (hG 0 (by decide)) rfl (by decide) wd_34 ?_
  refine tw_callV (As := []) (rest := [.int (nI k)]) C N (c_X1_size hG (S := S) hC.2.2.2.1) mm_X1_size wd_566 rfl (hG 12 (by decide)) sh_12 rfl (by decide) rfl (Nat.le_of_ble_eq_true rfl) dX10_put_5 ?_
  rintro _ _ ⟨rfl, rfl⟩
  show TW G X S [(0, .ref (tw_ad G 0)), (1, .int (nI k))] 8 [.int (nI fr.length), .int (nI k)]
  refine tw_callS (As := [.int (nI k), .int (nI fr.length)]) (rest := []) C N (c_X10_isOutside hG (S := S) (i := k) (m := fr.length) (by omega) (by omega)) mm_X10_isOutside wd_162 rfl (by decide) rfl (Nat.le_of_ble_eq_true rfl) dX10_put_8 ?_
  rintro _ _ ⟨rfl, rfl⟩
  show TW G X S [(0, .ref (tw_ad G 0)), (1, .int (nI k))] 11 [.int (bI (decide (fr.length < k)))]
  refine tb_if_eq C dX10_put_11 (tgt := 16) (by decide) (fun cg => ?_) (fun cg => ?_)
  · have hkle := of_decide_eq_false cg
    refine tw_aload_n C dX10_put_16 0 rfl ?_
    refine tw_getR (q := 1) (k := 0) C dX10_put_17 fc_X10 sh_0 (hG 0 (by decide)) rfl (by decide) wd_26 ?_
    refine tw_callV (As := []) (rest := []) C N (e_X7_length hG (S := S) tw_row1 (xs := tp) hC.2.1 ) mm_X7_length wd_183 rfl (hG 1 (by decide)) sh_1 rfl (by decide) rfl (Nat.le_of_ble_eq_true rfl) dX10_put_20 ?_
    rintro _ _ ⟨rfl, rfl⟩
    show TW G X S [(0, .ref (tw_ad G 0)), (1, .int (nI k))] 23 [.int (nI tp.length)]
    refine tn_if_eq C dX10_put_23 (tgt := 38) (by decide) (by omega) (fun c4 => ?_) (fun c4 => ?_)
    · skip
      refine tw_bipush C dX10_put_38 (v := (-2)) (by decide) ?_
      exact tw_ireturn C Q dX10_put_40 rfl rfl rfl (by rw [putA, if_neg (of_decide_eq_false cg), if_pos (by omega)]; exact ⟨rfl, hC⟩)
    · skip
      refine tw_aload_n C dX10_put_26 0 rfl ?_
      refine tw_getR (q := 1) (k := 0) C dX10_put_27 fc_X10 sh_0 (hG 0 (by decide)) rfl (by decide) wd_26 ?_
      refine tw_callV (As := []) (rest := []) C N (e_X7_length hG (S := S) tw_row1 (xs := tp) hC.2.1 ) mm_X7_length wd_183 rfl (hG 1 (by decide)) sh_1 rfl (by decide) rfl (Nat.le_of_ble_eq_true rfl) dX10_put_30 ?_
      rintro _ _ ⟨rfl, rfl⟩
      show TW G X S [(0, .ref (tw_ad G 0)), (1, .int (nI k))] 33 [.int (nI tp.length)]
      refine tw_bipush C dX10_put_33 (v := nI 120) (by decide) ?_
      refine tn_icmp_le C dX10_put_35 (tgt := 41) (by decide) (by omega) (by omega) (fun c6 => ?_) (fun c6 => ?_)
      · skip
        rcases (show k < fr.length ∨ (k = fr.length ∧ fr.length < 40) ∨ (k = fr.length ∧ fr.length = 40) by omega) with hlt | ⟨hkf, hlt⟩ | ⟨hkf, hlt⟩
        · skip
          refine tw_aload_n C dX10_put_41 0 rfl ?_
          refine tw_getR (q := 12) (k := 5) C dX10_put_42 fc_X10 sh_0 (hG 0 (by decide)) rfl (by decide) wd_34 ?_
          refine tw_iload_n C dX10_put_45 1 rfl ?_
          refine tw_aload_n C dX10_put_46 0 rfl ?_
          refine tw_getR (q := 1) (k := 0) C dX10_put_47 fc_X10 sh_0 (hG 0 (by decide)) rfl (by decide) wd_26 ?_
          refine tw_callV (As := [.int (nI k), .ref (tw_ad G 1)]) (rest := []) C N (c_X1_store1 hG (S := S) hC.2.2.2.1 tw_row1 (by decide) (ys := tp) hC.2.1 (k := k) (by omega)) mm_X1_store wd_567 rfl (hG 12 (by decide)) sh_12 rfl (by decide) rfl (Nat.le_of_ble_eq_true rfl) dX10_put_50 ?_
          rintro _ _ ⟨rfl, rfl⟩
          show TW G X (tw_uR S (34 + 2 * k) (tp.take 120)) [(0, .ref (tw_ad G 0)), (1, .int (nI k))] 53 [.int (bI true)]
          refine tb_if_eq C dX10_put_53 (tgt := 66) (by decide) (fun c8 => ?_) (fun c8 => ?_)
          · exact absurd c8 (by decide)
          refine tw_aload_n C dX10_put_56 0 rfl ?_
          refine tw_getR (q := 12) (k := 5) C dX10_put_57 fc_X10 sh_0 (hG 0 (by decide)) rfl (by decide) wd_34 ?_
          refine tw_callV (As := []) (rest := []) C N (c_X1_size hG (S := tw_uR S (34 + 2 * k) (tp.take 120)) (CI_st hC hlt).2.2.2.1) mm_X1_size wd_566 rfl (hG 12 (by decide)) sh_12 rfl (by decide) rfl (Nat.le_of_ble_eq_true rfl) dX10_put_60 ?_
          rintro _ _ ⟨rfl, rfl⟩
          show TW G X (tw_uR S (34 + 2 * k) (tp.take 120)) [(0, .ref (tw_ad G 0)), (1, .int (nI k))] 63 [.int (nI ((fr.set k (tp.take 120)).length))]
          refine tw_goto C dX10_put_63 (tgt := 68) (by decide) ?_
          exact tw_ireturn C Q dX10_put_68 rfl rfl rfl (by rw [putA, if_neg (of_decide_eq_false cg), if_neg (by omega), if_pos (by omega)]; exact ⟨by rw [List.length_set], by have h := CI_st (x := tp.take 120) hC hlt; rwa [List.take_of_length_le (by omega : tp.length ≤ 120)] at h ⊢⟩)
        · subst hkf
          refine tw_aload_n C dX10_put_41 0 rfl ?_
          refine tw_getR (q := 12) (k := 5) C dX10_put_42 fc_X10 sh_0 (hG 0 (by decide)) rfl (by decide) wd_34 ?_
          refine tw_iload_n C dX10_put_45 1 rfl ?_
          refine tw_aload_n C dX10_put_46 0 rfl ?_
          refine tw_getR (q := 1) (k := 0) C dX10_put_47 fc_X10 sh_0 (hG 0 (by decide)) rfl (by decide) wd_26 ?_
          refine tw_callV (As := [.int (nI fr.length), .ref (tw_ad G 1)]) (rest := []) C N (c_X1_store0 hG (S := S) hC.2.2.2.1 tw_row1 (by decide) (ys := tp) hC.2.1 (by omega)) mm_X1_store wd_567 rfl (hG 12 (by decide)) sh_12 rfl (by decide) rfl (Nat.le_of_ble_eq_true rfl) dX10_put_50 ?_
          rintro _ _ ⟨rfl, rfl⟩
          show TW G X (tw_uI (tw_uR S (34 + 2 * fr.length) (tp.take 120)) 12 1 (nI (fr.length + 1))) [(0, .ref (tw_ad G 0)), (1, .int (nI fr.length))] 53 [.int (bI true)]
          refine tb_if_eq C dX10_put_53 (tgt := 66) (by decide) (fun c11 => ?_) (fun c11 => ?_)
          · exact absurd c11 (by decide)
          refine tw_aload_n C dX10_put_56 0 rfl ?_
          refine tw_getR (q := 12) (k := 5) C dX10_put_57 fc_X10 sh_0 (hG 0 (by decide)) rfl (by decide) wd_34 ?_
          refine tw_callV (As := []) (rest := []) C N (c_X1_size hG (S := tw_uI (tw_uR S (34 + 2 * fr.length) (tp.take 120)) 12 1 (nI (fr.length + 1))) (CI_ps hC hlt).2.2.2.1) mm_X1_size wd_566 rfl (hG 12 (by decide)) sh_12 rfl (by decide) rfl (Nat.le_of_ble_eq_true rfl) dX10_put_60 ?_
          rintro _ _ ⟨rfl, rfl⟩
          show TW G X (tw_uI (tw_uR S (34 + 2 * fr.length) (tp.take 120)) 12 1 (nI (fr.length + 1))) [(0, .ref (tw_ad G 0)), (1, .int (nI fr.length))] 63 [.int (nI ((fr ++ [tp.take 120]).length))]
          refine tw_goto C dX10_put_63 (tgt := 68) (by decide) ?_
          exact tw_ireturn C Q dX10_put_68 rfl rfl rfl (by rw [putA, if_neg (of_decide_eq_false cg), if_neg (by omega), if_neg (by omega), if_pos (by omega)]; exact ⟨by rw [List.length_append]; rfl, by have h := CI_ps (x := tp.take 120) hC hlt; rwa [List.take_of_length_le (by omega : tp.length ≤ 120)] at h ⊢⟩)
        · skip
          refine tw_aload_n C dX10_put_41 0 rfl ?_
          refine tw_getR (q := 12) (k := 5) C dX10_put_42 fc_X10 sh_0 (hG 0 (by decide)) rfl (by decide) wd_34 ?_
          refine tw_iload_n C dX10_put_45 1 rfl ?_
          refine tw_aload_n C dX10_put_46 0 rfl ?_
          refine tw_getR (q := 1) (k := 0) C dX10_put_47 fc_X10 sh_0 (hG 0 (by decide)) rfl (by decide) wd_26 ?_
          refine tw_callV (As := [.int (nI k), .ref (tw_ad G 1)]) (rest := []) C N (c_X1_store2 hG (S := S) hC.2.2.2.1 tw_row1 (by decide) (ys := tp) hC.2.1 (k := k) (by omega) (by omega)) mm_X1_store wd_567 rfl (hG 12 (by decide)) sh_12 rfl (by decide) rfl (Nat.le_of_ble_eq_true rfl) dX10_put_50 ?_
          rintro _ _ ⟨rfl, rfl⟩
          show TW G X S [(0, .ref (tw_ad G 0)), (1, .int (nI k))] 53 [.int (bI false)]
          refine tb_if_eq C dX10_put_53 (tgt := 66) (by decide) (fun c14 => ?_) (fun c14 => ?_)
          · skip
            refine tw_bipush C dX10_put_66 (v := (-3)) (by decide) ?_
            exact tw_ireturn C Q dX10_put_68 rfl rfl rfl (by rw [putA, if_neg (of_decide_eq_false cg), if_neg (by omega), if_neg (by omega), if_neg (by omega)]; exact ⟨rfl, hC⟩)
          · exact absurd c14 (by decide)
      · skip
        refine tw_bipush C dX10_put_38 (v := (-2)) (by decide) ?_
        exact tw_ireturn C Q dX10_put_40 rfl rfl rfl (by rw [putA, if_neg (of_decide_eq_false cg), if_pos (by omega)]; exact ⟨rfl, hC⟩)
  · skip
    refine tw_iconst C dX10_put_14 (v := (-1)) (by decide) ?_
    exact tw_ireturn C Q dX10_put_15 rfl rfl rfl (by rw [putA, if_pos (of_decide_eq_true cg)]; exact ⟨rfl, hC⟩)
theorem c_X10_hear {G : tw_G} (hG : tw_cG G) {S : tw_S} {K : kN} {tp ot : List Nat} {fr : List (List Nat)} {T : Nat → Int32} {c : Nat → cH} {ck wh dr la an : Nat} (hC : CI S K tp ot fr T c ck wh dr la an) {k : Nat} (hk : k < 2 ^ 32) (hckb : ck < 2 ^ 20) (hnb : ∀ i, i < 3 → hNp (c i) < 2 ^ 19 ∧ hNb (c i) < 2 ^ 19) (hfb : ∀ k, k < fr.length → (∀ x ∈ fr.getD k [], x < 256) ∧ (fr.getD k []).length ≤ 120) : tw_M G yX10_hear cX10_hear 2 (some .int) 7 161 [.ref (tw_ad G 0), .int (nI k)] S ri_I (fun v S' => if k < fr.length then v = nI (listenP K (fr.getD k []) ck c).1 ∧ CI S' K tp (oSel (listenP K (fr.getD k []) ck c).2.2.2.2 ot) fr T ((listenP K (fr.getD k []) ck c).2.2.2.1) ck (wh + (if (listenP K (fr.getD k []) ck c).1 = 2 then 1 else 0)) (dr + (if (listenP K (fr.getD k []) ck c).1 = 0 then 1 else 0)) (la + (listenP K (fr.getD k []) ck c).2.1) (an + (listenP K (fr.getD k []) ck c).2.2.1) else v = -1 ∧ S = S') := by
  refine tw_M.of (L := [(0, .ref (tw_ad G 0)), (1, .int (nI k))]) (by decide) (Nat.le_of_ble_eq_true rfl) rfl (fun X C N Q => ?_)
  have C : tw_C G X cX10_hear RX10 := C
  refine tw_aload_n C dX10_hear_0 0 rfl ?_
  refine tw_getR (q := 12) (k := 5) C dX10_hear_1 fc_X10 sh_0 (hG 0 (by decide)) rfl (by decide) wd_34 ?_
  refine tw_iload_n C dX10_hear_4 1 rfl ?_
  refine tw_callV (As := [.int (nI k)]) (rest := []) C N (c_X1_has hG (S := S) hC.2.2.2.1 (i := k) (by omega)) mm_X1_has wd_337 rfl (hG 12 (by decide)) sh_12 rfl (by decide) rfl (Nat.le_of_ble_eq_true rfl) dX10_hear_5 ?_
  rintro _ _ ⟨rfl, rfl⟩
  show TW G X S [(0, .ref (tw_ad G 0)), (1, .int (nI k))] 8 [.int (bI (decide (k < fr.length)))]
  refine tb_if_eq C dX10_hear_8 (tgt := 33) (by decide) (fun ck1 => ?_) (fun ck1 => ?_)
  · skip
    refine tw_iconst C dX10_hear_33 (v := (-1)) (by decide) ?_
    exact tw_ireturn C Q dX10_hear_34 rfl rfl rfl (by rw [if_neg (of_decide_eq_false ck1)]; exact ⟨rfl, rfl⟩)
  · have h40 := hC.2.2.2.1.1
    have hkl := of_decide_eq_true ck1
    refine tw_aload_n C dX10_hear_11 0 rfl ?_
    refine tw_getR (q := 19) (k := 7) C dX10_hear_12 fc_X10 sh_0 (hG 0 (by decide)) rfl (by decide) wd_42 ?_
    refine tw_aload_n C dX10_hear_15 0 rfl ?_
    refine tw_getR (q := 12) (k := 5) C dX10_hear_16 fc_X10 sh_0 (hG 0 (by decide)) rfl (by decide) wd_34 ?_
    refine tw_iload_n C dX10_hear_19 1 rfl ?_
    refine tw_callV (As := [.int (nI k)]) (rest := [.ref (tw_ad G 19)]) C N (c_X1_at hG (S := S) (i := k) (by omega)) mm_X1_at wd_341 rfl (hG 12 (by decide)) sh_12 rfl (by decide) rfl (Nat.le_of_ble_eq_true rfl) dX10_hear_20 ?_
    rintro _ _ ⟨rfl, rfl⟩
    show TW G X S [(0, .ref (tw_ad G 0)), (1, .int (nI k))] 23 [.ref (tw_ad G (34 + 2 * k)), .ref (tw_ad G 19)]
    refine tw_aload_n C dX10_hear_23 0 rfl ?_
    refine tw_getR (q := 3) (k := 1) C dX10_hear_24 fc_X10 sh_0 (hG 0 (by decide)) rfl (by decide) wd_27 ?_
    refine tw_callV (As := [.ref (tw_ad G (34 + 2 * k)), .ref (tw_ad G 3)]) (rest := []) C N (c_X6_listen hG (S := S) hC.1 hC.2.2.2.2.2.1 hC.2.2.2.2.2.2.1 hckb hC.2.2.2.2.2.2.2.2.2.1 hC.2.2.2.2.2.2.2.2.2.2 hnb (tw_rowF (k := k) (by omega)) (by omega) (hC.2.2.2.1.2.2 k (by omega)) (hfb k hkl).1 (hfb k hkl).2 hC.2.2.2.2.2.2.2.1 hC.2.2.2.2.2.2.2.2.1) mm_X6_listen wd_345 rfl (hG 19 (by decide)) sh_19 rfl (by decide) rfl (Nat.le_of_ble_eq_true rfl) dX10_hear_27 ?_
    rintro v S2 hl
    show TW G X S2 [(0, .ref (tw_ad G 0)), (1, .int (nI k))] 30 [.int v]
    refine tw_goto C dX10_hear_30 (tgt := 34) (by decide) ?_
    exact tw_ireturn C Q dX10_hear_34 rfl rfl rfl (by rw [if_pos hkl]; exact ⟨hl.1, CI_ls hC hl⟩)
/-- what counting answers -/
def cntA (fr : List (List Nat)) (c : Nat → cH) (ck wh dr la an i : Nat) : Int32 := match i with
  | 0 => nI (sumN (fun j => if hTh (c j) = true then 1 else 0) 3)
  | 1 => nI (sumN (fun j => if hTh (c j) = true then hNp (c j) else 0) 3)
  | 2 => nI (sumN (fun j => if hTh (c j) = true then hNb (c j) else 0) 3)
  | 3 => nI fr.length
  | 4 => nI wh
  | 5 => nI dr
  | 6 => nI la
  | 7 => nI an
  | 8 => nI ck
  | _ + 9 => -1
theorem cntA_out {fr : List (List Nat)} {c : Nat → cH} {ck wh dr la an i : Nat} (h : 8 < i) : cntA fr c ck wh dr la an i = -1 := by
  obtain ⟨j, rfl⟩ : ∃ j, i = j + 9 := ⟨i - 9, by omega⟩
  rfl
theorem c_X10_count {G : tw_G} (hG : tw_cG G) {S : tw_S} {K : kN} {tp ot : List Nat} {fr : List (List Nat)} {T : Nat → Int32} {c : Nat → cH} {ck wh dr la an : Nat} (hC : CI S K tp ot fr T c ck wh dr la an) {i : Nat} (hi : i < 2 ^ 32) : tw_M G yX10_count cX10_count 2 (some .int) 2 42 [.ref (tw_ad G 0), .int (nI i)] S ri_I (fun v S' => v = cntA fr c ck wh dr la an i ∧ S = S') := by
  refine tw_M.of (L := [(0, .ref (tw_ad G 0)), (1, .int (nI i))]) (by decide) (Nat.le_of_ble_eq_true rfl) rfl (fun X C N Q => ?_)
  have C : tw_C G X cX10_count RX10 := C
  rcases Nat.lt_or_ge i (2 ^ 31) with hi1 | hi1
  · skip
    refine tw_iload_n C dX10_count_0 1 rfl ?_
    rcases (show i = 0 ∨ i = 1 ∨ i = 2 ∨ i = 3 ∨ i = 4 ∨ i = 5 ∨ i = 6 ∨ i = 7 ∨ i = 8 ∨ 8 < i by omega) with q | q | q | q | q | q | q | q | q | q
    · refine tn_tabIn (tgt := 52) (off := 51) C dX10_count_1 (by omega) (by omega) (by omega) (by simp [q]) (by decide) ?_
      refine tw_aload_n C dX10_count_52 0 rfl ?_
      refine tw_getR (q := 19) (k := 7) C dX10_count_53 fc_X10 sh_0 (hG 0 (by decide)) rfl (by decide) wd_42 ?_
      refine tw_callV (As := []) (rest := []) C N (c_X6_heaps hG (S := S) hC.2.2.2.2.2.1) mm_X6_heaps wd_584 rfl (hG 19 (by decide)) sh_19 rfl (by decide) rfl (Nat.le_of_ble_eq_true rfl) dX10_count_56 ?_
      rintro _ _ ⟨rfl, rfl⟩
      show TW G X S [(0, .ref (tw_ad G 0)), (1, .int (nI i))] 59 [.int (nI (sumN (fun j => if hTh (c j) = true then 1 else 0) 3))]
      exact tw_ireturn C Q dX10_count_59 rfl rfl rfl ⟨by rw [q]; rfl, rfl⟩
    · refine tn_tabIn (tgt := 60) (off := 59) C dX10_count_1 (by omega) (by omega) (by omega) (by simp [q]) (by decide) ?_
      refine tw_aload_n C dX10_count_60 0 rfl ?_
      refine tw_getR (q := 19) (k := 7) C dX10_count_61 fc_X10 sh_0 (hG 0 (by decide)) rfl (by decide) wd_42 ?_
      refine tw_callV (As := []) (rest := []) C N (c_X6_parts hG (S := S) hC.2.2.2.2.2.1) mm_X6_parts wd_588 rfl (hG 19 (by decide)) sh_19 rfl (by decide) rfl (Nat.le_of_ble_eq_true rfl) dX10_count_64 ?_
      rintro _ _ ⟨rfl, rfl⟩
      show TW G X S [(0, .ref (tw_ad G 0)), (1, .int (nI i))] 67 [.int (nI (sumN (fun j => if hTh (c j) = true then hNp (c j) else 0) 3))]
      exact tw_ireturn C Q dX10_count_67 rfl rfl rfl ⟨by rw [q]; rfl, rfl⟩
    · refine tn_tabIn (tgt := 68) (off := 67) C dX10_count_1 (by omega) (by omega) (by omega) (by simp [q]) (by decide) ?_
      refine tw_aload_n C dX10_count_68 0 rfl ?_
      refine tw_getR (q := 19) (k := 7) C dX10_count_69 fc_X10 sh_0 (hG 0 (by decide)) rfl (by decide) wd_42 ?_
      refine tw_callV (As := []) (rest := []) C N (c_X6_bytes hG (S := S) hC.2.2.2.2.2.1) mm_X6_bytes wd_596 rfl (hG 19 (by decide)) sh_19 rfl (by decide) rfl (Nat.le_of_ble_eq_true rfl) dX10_count_72 ?_
      rintro _ _ ⟨rfl, rfl⟩
      show TW G X S [(0, .ref (tw_ad G 0)), (1, .int (nI i))] 75 [.int (nI (sumN (fun j => if hTh (c j) = true then hNb (c j) else 0) 3))]
      exact tw_ireturn C Q dX10_count_75 rfl rfl rfl ⟨by rw [q]; rfl, rfl⟩
    · refine tn_tabIn (tgt := 76) (off := 75) C dX10_count_1 (by omega) (by omega) (by omega) (by simp [q]) (by decide) ?_
      refine tw_aload_n C dX10_count_76 0 rfl ?_
      refine tw_getR (q := 12) (k := 5) C dX10_count_77 fc_X10 sh_0 (hG 0 (by decide)) rfl (by decide) wd_34 ?_
      refine tw_callV (As := []) (rest := []) C N (c_X1_size hG (S := S) hC.2.2.2.1) mm_X1_size wd_566 rfl (hG 12 (by decide)) sh_12 rfl (by decide) rfl (Nat.le_of_ble_eq_true rfl) dX10_count_80 ?_
      rintro _ _ ⟨rfl, rfl⟩
      show TW G X S [(0, .ref (tw_ad G 0)), (1, .int (nI i))] 83 [.int (nI fr.length)]
      exact tw_ireturn C Q dX10_count_83 rfl rfl rfl ⟨by rw [q]; rfl, rfl⟩
    · refine tn_tabIn (tgt := 84) (off := 83) C dX10_count_1 (by omega) (by omega) (by omega) (by simp [q]) (by decide) ?_
      refine tw_aload_n C dX10_count_84 0 rfl ?_
      refine tw_getR (q := 19) (k := 7) C dX10_count_85 fc_X10 sh_0 (hG 0 (by decide)) rfl (by decide) wd_42 ?_
      refine tw_getIN (v := nI wh) (k := 3) C dX10_count_88 fc_X6 sh_19 (hG 19 (by decide)) rfl (by decide) C.Z.1.2.1 hC.2.2.2.2.2.2.2.1 ?_
      exact tw_ireturn C Q dX10_count_91 rfl rfl rfl ⟨by rw [q]; rfl, rfl⟩
    · refine tn_tabIn (tgt := 92) (off := 91) C dX10_count_1 (by omega) (by omega) (by omega) (by simp [q]) (by decide) ?_
      refine tw_aload_n C dX10_count_92 0 rfl ?_
      refine tw_getR (q := 19) (k := 7) C dX10_count_93 fc_X10 sh_0 (hG 0 (by decide)) rfl (by decide) wd_42 ?_
      refine tw_getIN (v := nI dr) (k := 4) C dX10_count_96 fc_X6 sh_19 (hG 19 (by decide)) rfl (by decide) C.Z.1.2.2.1 hC.2.2.2.2.2.2.2.2.1 ?_
      exact tw_ireturn C Q dX10_count_99 rfl rfl rfl ⟨by rw [q]; rfl, rfl⟩
    · refine tn_tabIn (tgt := 100) (off := 99) C dX10_count_1 (by omega) (by omega) (by omega) (by simp [q]) (by decide) ?_
      refine tw_aload_n C dX10_count_100 0 rfl ?_
      refine tw_getR (q := 19) (k := 7) C dX10_count_101 fc_X10 sh_0 (hG 0 (by decide)) rfl (by decide) wd_42 ?_
      refine tw_getIN (v := nI la) (k := 5) C dX10_count_104 fc_X6 sh_19 (hG 19 (by decide)) rfl (by decide) C.Z.1.2.2.2.1 hC.2.2.2.2.2.2.2.2.2.1 ?_
      exact tw_ireturn C Q dX10_count_107 rfl rfl rfl ⟨by rw [q]; rfl, rfl⟩
    · refine tn_tabIn (tgt := 108) (off := 107) C dX10_count_1 (by omega) (by omega) (by omega) (by simp [q]) (by decide) ?_
      refine tw_aload_n C dX10_count_108 0 rfl ?_
      refine tw_getR (q := 19) (k := 7) C dX10_count_109 fc_X10 sh_0 (hG 0 (by decide)) rfl (by decide) wd_42 ?_
      refine tw_getIN (v := nI an) (k := 6) C dX10_count_112 fc_X6 sh_19 (hG 19 (by decide)) rfl (by decide) C.Z.1.2.2.2.2.1 hC.2.2.2.2.2.2.2.2.2.2 ?_
      exact tw_ireturn C Q dX10_count_115 rfl rfl rfl ⟨by rw [q]; rfl, rfl⟩
    · refine tn_tabIn (tgt := 116) (off := 115) C dX10_count_1 (by omega) (by omega) (by omega) (by simp [q]) (by decide) ?_
      refine tw_aload_n C dX10_count_116 0 rfl ?_
      refine tw_getR (q := 19) (k := 7) C dX10_count_117 fc_X10 sh_0 (hG 0 (by decide)) rfl (by decide) wd_42 ?_
      refine tw_getIN (v := nI ck) (k := 2) C dX10_count_120 fc_X6 sh_19 (hG 19 (by decide)) rfl (by decide) C.Z.1.2.2.2.2.2.1 hC.2.2.2.2.2.2.1 ?_
      exact tw_ireturn C Q dX10_count_123 rfl rfl rfl ⟨by rw [q]; rfl, rfl⟩
    · refine tn_tabOut (tgt := 124) C dX10_count_1 (by omega) (by omega) (by decide) ?_
      refine tw_iconst C dX10_count_124 (v := (-1)) (by decide) ?_
      exact tw_ireturn C Q dX10_count_125 rfl rfl rfl ⟨(cntA_out (by omega)).symm, rfl⟩
  · have hneg := nI_neg hi1 hi
    refine tw_iload_n C dX10_count_0 1 rfl ?_
    refine tw_tabOut (tgt := 124) C dX10_count_1 (Or.inl (by rw [Int32.lt_iff_toInt_lt, Int32.toInt_zero] at hneg; exact hneg)) (by decide) ?_
    refine tw_iconst C dX10_count_124 (v := (-1)) (by decide) ?_
    exact tw_ireturn C Q dX10_count_125 rfl rfl rfl ⟨(cntA_out (by omega)).symm, rfl⟩
theorem c_X10_head {G : tw_G} (hG : tw_cG G) {S : tw_S} {K : kN} {tp ot : List Nat} {fr : List (List Nat)} {T : Nat → Int32} {c : Nat → cH} {ck wh dr la an : Nat} (hC : CI S K tp ot fr T c ck wh dr la an) {t l m kd hp : Nat} (ht : t < 2 ^ 32) (hl : l < 2 ^ 32) (hm : m < 2 ^ 32) (hk : kd < 2 ^ 32) (hh : hp < 2 ^ 32) {a1 a2 a3 a4 : Nat} (h1 : a1 < 2 ^ 64) (h2 : a2 < 2 ^ 64) (h3 : a3 < 2 ^ 64) (h4 : a4 < 2 ^ 64) : tw_M G yX10_head cX10_head 14 (some .int) 2 45 [.ref (tw_ad G 0), .int (nI t), .int (nI l), .int (nI m), .int (nI kd), .int (nI hp), .long (lN a1), .long (lN a2), .long (lN a3), .long (lN a4)] S ri_I (fun v S' => if t ≤ 255 ∧ l ≤ 1048575 ∧ m ≤ 560 ∧ kd ≤ 255 ∧ hp ≤ 255 then (if 40 + tp.length ≤ 640 then v = nI (tp ++ be (ff t l) 4 ++ be m 2 ++ [kd % 256] ++ [hp % 256] ++ be a1 8 ++ be a2 8 ++ be a3 8 ++ be a4 8).length ∧ CI S' K (tp ++ be (ff t l) 4 ++ be m 2 ++ [kd % 256] ++ [hp % 256] ++ be a1 8 ++ be a2 8 ++ be a3 8 ++ be a4 8) ot fr T c ck wh dr la an else v = -3 ∧ S = S') else v = -1 ∧ S = S') := by
  refine tw_M.of (L := [(0, .ref (tw_ad G 0)), (1, .int (nI t)), (2, .int (nI l)), (3, .int (nI m)), (4, .int (nI kd)), (5, .int (nI hp)), (6, .long (lN a1)), (8, .long (lN a2)), (10, .long (lN a3)), (12, .long (lN a4))]) (by decide) (Nat.le_of_ble_eq_true rfl) rfl (fun X C N Q => ?_)
  have C : tw_C G X cX10_head RX10 := C
  refine tw_iload_n C dX10_head_0 1 rfl ?_
  refine tw_sipush C dX10_head_1 (v := nI 255) (by decide) ?_
  refine tw_callS (As := [.int (nI t), .int (nI 255)]) (rest := []) C N (c_X10_isOutside hG (S := S) (i := t) (m := 255) (by omega) (by omega)) mm_X10_isOutside wd_162 rfl (by decide) rfl (Nat.le_of_ble_eq_true rfl) dX10_head_4 ?_
  rintro _ _ ⟨rfl, rfl⟩
  show TW G X S [(0, .ref (tw_ad G 0)), (1, .int (nI t)), (2, .int (nI l)), (3, .int (nI m)), (4, .int (nI kd)), (5, .int (nI hp)), (6, .long (lN a1)), (8, .long (lN a2)), (10, .long (lN a3)), (12, .long (lN a4))] 7 [.int (bI (decide (255 < t)))]
  refine tb_if_ne C dX10_head_7 (tgt := 51) (by decide) (fun cg1 => ?_) (fun cg1 => ?_)
  · have := of_decide_eq_true cg1
    refine tw_iconst C dX10_head_51 (v := (-1)) (by decide) ?_
    exact tw_ireturn C Q dX10_head_52 rfl rfl rfl (by rw [if_neg (by rintro ⟨h1, h2, h3, h4, h5⟩; simp only [decide_eq_true_eq] at *; omega)]; exact ⟨rfl, rfl⟩)
  · have g1 : t ≤ 255 := by have := of_decide_eq_false cg1; omega
    refine tw_iload_n C dX10_head_10 2 rfl ?_
    refine tw_ldc C dX10_head_11 wd_161 (w := nI 1048575) (by decide) ?_
    refine tw_callS (As := [.int (nI l), .int (nI 1048575)]) (rest := []) C N (c_X10_isOutside hG (S := S) (i := l) (m := 1048575) (by omega) (by omega)) mm_X10_isOutside wd_162 rfl (by decide) rfl (Nat.le_of_ble_eq_true rfl) dX10_head_13 ?_
    rintro _ _ ⟨rfl, rfl⟩
    show TW G X S [(0, .ref (tw_ad G 0)), (1, .int (nI t)), (2, .int (nI l)), (3, .int (nI m)), (4, .int (nI kd)), (5, .int (nI hp)), (6, .long (lN a1)), (8, .long (lN a2)), (10, .long (lN a3)), (12, .long (lN a4))] 16 [.int (bI (decide (1048575 < l)))]
    refine tb_if_ne C dX10_head_16 (tgt := 51) (by decide) (fun cg2 => ?_) (fun cg2 => ?_)
    · have := of_decide_eq_true cg2
      refine tw_iconst C dX10_head_51 (v := (-1)) (by decide) ?_
      exact tw_ireturn C Q dX10_head_52 rfl rfl rfl (by rw [if_neg (by rintro ⟨h1, h2, h3, h4, h5⟩; simp only [decide_eq_true_eq] at *; omega)]; exact ⟨rfl, rfl⟩)
    · have g2 : l ≤ 1048575 := by have := of_decide_eq_false cg2; omega
      refine tw_iload_n C dX10_head_19 3 rfl ?_
      refine tw_sipush C dX10_head_20 (v := nI 560) (by decide) ?_
      refine tw_callS (As := [.int (nI m), .int (nI 560)]) (rest := []) C N (c_X10_isOutside hG (S := S) (i := m) (m := 560) (by omega) (by omega)) mm_X10_isOutside wd_162 rfl (by decide) rfl (Nat.le_of_ble_eq_true rfl) dX10_head_23 ?_
      rintro _ _ ⟨rfl, rfl⟩
      show TW G X S [(0, .ref (tw_ad G 0)), (1, .int (nI t)), (2, .int (nI l)), (3, .int (nI m)), (4, .int (nI kd)), (5, .int (nI hp)), (6, .long (lN a1)), (8, .long (lN a2)), (10, .long (lN a3)), (12, .long (lN a4))] 26 [.int (bI (decide (560 < m)))]
      refine tb_if_ne C dX10_head_26 (tgt := 51) (by decide) (fun cg3 => ?_) (fun cg3 => ?_)
      · have := of_decide_eq_true cg3
        refine tw_iconst C dX10_head_51 (v := (-1)) (by decide) ?_
        exact tw_ireturn C Q dX10_head_52 rfl rfl rfl (by rw [if_neg (by rintro ⟨h1, h2, h3, h4, h5⟩; simp only [decide_eq_true_eq] at *; omega)]; exact ⟨rfl, rfl⟩)
      · have g3 : m ≤ 560 := by have := of_decide_eq_false cg3; omega
        refine tw_iload C dX10_head_29 4 rfl ?_
        refine tw_sipush C dX10_head_31 (v := nI 255) (by decide) ?_
        refine tw_callS (As := [.int (nI kd), .int (nI 255)]) (rest := []) C N (c_X10_isOutside hG (S := S) (i := kd) (m := 255) (by omega) (by omega)) mm_X10_isOutside wd_162 rfl (by decide) rfl (Nat.le_of_ble_eq_true rfl) dX10_head_34 ?_
        rintro _ _ ⟨rfl, rfl⟩
        show TW G X S [(0, .ref (tw_ad G 0)), (1, .int (nI t)), (2, .int (nI l)), (3, .int (nI m)), (4, .int (nI kd)), (5, .int (nI hp)), (6, .long (lN a1)), (8, .long (lN a2)), (10, .long (lN a3)), (12, .long (lN a4))] 37 [.int (bI (decide (255 < kd)))]
        refine tb_if_ne C dX10_head_37 (tgt := 51) (by decide) (fun cg4 => ?_) (fun cg4 => ?_)
        · have := of_decide_eq_true cg4
          refine tw_iconst C dX10_head_51 (v := (-1)) (by decide) ?_
          exact tw_ireturn C Q dX10_head_52 rfl rfl rfl (by rw [if_neg (by rintro ⟨h1, h2, h3, h4, h5⟩; simp only [decide_eq_true_eq] at *; omega)]; exact ⟨rfl, rfl⟩)
        · have g4 : kd ≤ 255 := by have := of_decide_eq_false cg4; omega
          refine tw_iload C dX10_head_40 5 rfl ?_
          refine tw_sipush C dX10_head_42 (v := nI 255) (by decide) ?_
          refine tw_callS (As := [.int (nI hp), .int (nI 255)]) (rest := []) C N (c_X10_isOutside hG (S := S) (i := hp) (m := 255) (by omega) (by omega)) mm_X10_isOutside wd_162 rfl (by decide) rfl (Nat.le_of_ble_eq_true rfl) dX10_head_45 ?_
          rintro _ _ ⟨rfl, rfl⟩
          show TW G X S [(0, .ref (tw_ad G 0)), (1, .int (nI t)), (2, .int (nI l)), (3, .int (nI m)), (4, .int (nI kd)), (5, .int (nI hp)), (6, .long (lN a1)), (8, .long (lN a2)), (10, .long (lN a3)), (12, .long (lN a4))] 48 [.int (bI (decide (255 < hp)))]
          refine tb_if_eq C dX10_head_48 (tgt := 53) (by decide) (fun cg5 => ?_) (fun cg5 => ?_)
          · have g5 : hp ≤ 255 := by have := of_decide_eq_false cg5; omega
            refine tw_aload_n C dX10_head_53 0 rfl ?_
            refine tw_getR (q := 1) (k := 0) C dX10_head_54 fc_X10 sh_0 (hG 0 (by decide)) rfl (by decide) wd_26 ?_
            refine tw_bipush C dX10_head_57 (v := nI 40) (by decide) ?_
            refine tw_callV (As := [.int (nI 40)]) (rest := []) C N (e_X7_takes hG (S := S) tw_row1 hC.2.1 (i := 40) (by omega)) mm_X7_takes wd_165 rfl (hG 1 (by decide)) sh_1 rfl (by decide) rfl (Nat.le_of_ble_eq_true rfl) dX10_head_59 ?_
            rintro _ _ ⟨rfl, rfl⟩
            show TW G X S [(0, .ref (tw_ad G 0)), (1, .int (nI t)), (2, .int (nI l)), (3, .int (nI m)), (4, .int (nI kd)), (5, .int (nI hp)), (6, .long (lN a1)), (8, .long (lN a2)), (10, .long (lN a3)), (12, .long (lN a4))] 62 [.int (bI (decide (40 + tp.length ≤ 640)))]
            refine tb_if_ne C dX10_head_62 (tgt := 68) (by decide) (fun cw => ?_) (fun cw => ?_)
            · skip
              refine tw_aload_n C dX10_head_68 0 rfl ?_
              refine tw_getR (q := 1) (k := 0) C dX10_head_69 fc_X10 sh_0 (hG 0 (by decide)) rfl (by decide) wd_26 ?_
              refine tw_iload_n C dX10_head_72 1 rfl ?_
              refine tw_iload_n C dX10_head_73 2 rfl ?_
              refine tw_callS (As := [.int (nI t), .int (nI l)]) (rest := [.ref (tw_ad G 1)]) C N (c_X5_firstFour hG (S := S) (t := t) (l := l) (by omega) (by omega)) mm_X5_firstFour wd_169 rfl (by decide) rfl (Nat.le_of_ble_eq_true rfl) dX10_head_74 ?_
              rintro _ _ ⟨rfl, rfl⟩
              show TW G X S [(0, .ref (tw_ad G 0)), (1, .int (nI t)), (2, .int (nI l)), (3, .int (nI m)), (4, .int (nI kd)), (5, .int (nI hp)), (6, .long (lN a1)), (8, .long (lN a2)), (10, .long (lN a3)), (12, .long (lN a4))] 77 [.long (lN (ff t l)), .ref (tw_ad G 1)]
              refine tw_iconst C dX10_head_77 (v := nI 4) (by decide) ?_
              refine tw_callV (As := [.long (lN (ff t l)), .int (nI 4)]) (rest := []) C N (e_X7_addNumber hG (S := S) tw_row1 (xs := tp) hC.2.1 (v := ff t l) (i := 4) (by unfold ff; omega) (by omega)) mm_X7_addNumber wd_174 rfl (hG 1 (by decide)) sh_1 rfl (by decide) rfl (Nat.le_of_ble_eq_true rfl) dX10_head_78 ?_
              rintro _ _ rfl
              show TW G X (tw_uR S 1 ((tp ++ be (ff t l) 4).take (tw_cap 1))) [(0, .ref (tw_ad G 0)), (1, .int (nI t)), (2, .int (nI l)), (3, .int (nI m)), (4, .int (nI kd)), (5, .int (nI hp)), (6, .long (lN a1)), (8, .long (lN a2)), (10, .long (lN a3)), (12, .long (lN a4))] 81 []
              refine tw_aload_n C dX10_head_81 0 rfl ?_
              refine tw_getR (q := 1) (k := 0) C dX10_head_82 fc_X10 sh_0 (hG 0 (by decide)) rfl (by decide) wd_26 ?_
              refine tw_iload_n C dX10_head_85 3 rfl ?_
              refine tw_i2l C dX10_head_86 (v := lN m) (nI_i64 (by omega)) ?_
              refine tw_iconst C dX10_head_87 (v := nI 2) (by decide) ?_
              refine tw_callV (As := [.long (lN m), .int (nI 2)]) (rest := []) C N (e_X7_addNumber hG (S := tw_uR S 1 ((tp ++ be (ff t l) 4).take (tw_cap 1))) tw_row1 (xs := (tp ++ be (ff t l) 4).take (tw_cap 1)) rfl (v := m) (i := 2) (by omega) (by omega)) mm_X7_addNumber wd_174 rfl (hG 1 (by decide)) sh_1 rfl (by decide) rfl (Nat.le_of_ble_eq_true rfl) dX10_head_88 ?_
              rintro _ _ rfl
              show TW G X (tw_uR (tw_uR S 1 ((tp ++ be (ff t l) 4).take (tw_cap 1))) 1 ((((tp ++ be (ff t l) 4).take (tw_cap 1)) ++ be m 2).take (tw_cap 1))) [(0, .ref (tw_ad G 0)), (1, .int (nI t)), (2, .int (nI l)), (3, .int (nI m)), (4, .int (nI kd)), (5, .int (nI hp)), (6, .long (lN a1)), (8, .long (lN a2)), (10, .long (lN a3)), (12, .long (lN a4))] 91 []
              refine TW.sS (S' := tw_uR S 1 ((tp ++ be (ff t l) 4 ++ be m 2).take (tw_cap 1))) (by rw [tw_uR_uR, tk_tk]) ?_
              refine tw_aload_n C dX10_head_91 0 rfl ?_
              refine tw_getR (q := 1) (k := 0) C dX10_head_92 fc_X10 sh_0 (hG 0 (by decide)) rfl (by decide) wd_26 ?_
              refine tw_iload C dX10_head_95 4 rfl ?_
              refine tw_callV (As := [.int (nI kd)]) (rest := []) C N (e_X7_add hG (S := tw_uR S 1 ((tp ++ be (ff t l) 4 ++ be m 2).take (tw_cap 1))) tw_row1 (xs := (tp ++ be (ff t l) 4 ++ be m 2).take (tw_cap 1)) rfl (x := kd)) mm_X7_add wd_182 rfl (hG 1 (by decide)) sh_1 rfl (by decide) rfl (Nat.le_of_ble_eq_true rfl) dX10_head_97 ?_
              rintro _ _ rfl
              show TW G X (tw_uR (tw_uR S 1 ((tp ++ be (ff t l) 4 ++ be m 2).take (tw_cap 1))) 1 ((((tp ++ be (ff t l) 4 ++ be m 2).take (tw_cap 1)) ++ [kd % 256]).take (tw_cap 1))) [(0, .ref (tw_ad G 0)), (1, .int (nI t)), (2, .int (nI l)), (3, .int (nI m)), (4, .int (nI kd)), (5, .int (nI hp)), (6, .long (lN a1)), (8, .long (lN a2)), (10, .long (lN a3)), (12, .long (lN a4))] 100 []
              refine TW.sS (S' := tw_uR S 1 ((tp ++ be (ff t l) 4 ++ be m 2 ++ [kd % 256]).take (tw_cap 1))) (by rw [tw_uR_uR, tk_tk]) ?_
              refine tw_aload_n C dX10_head_100 0 rfl ?_
              refine tw_getR (q := 1) (k := 0) C dX10_head_101 fc_X10 sh_0 (hG 0 (by decide)) rfl (by decide) wd_26 ?_
              refine tw_iload C dX10_head_104 5 rfl ?_
              refine tw_callV (As := [.int (nI hp)]) (rest := []) C N (e_X7_add hG (S := tw_uR S 1 ((tp ++ be (ff t l) 4 ++ be m 2 ++ [kd % 256]).take (tw_cap 1))) tw_row1 (xs := (tp ++ be (ff t l) 4 ++ be m 2 ++ [kd % 256]).take (tw_cap 1)) rfl (x := hp)) mm_X7_add wd_182 rfl (hG 1 (by decide)) sh_1 rfl (by decide) rfl (Nat.le_of_ble_eq_true rfl) dX10_head_106 ?_
              rintro _ _ rfl
              show TW G X (tw_uR (tw_uR S 1 ((tp ++ be (ff t l) 4 ++ be m 2 ++ [kd % 256]).take (tw_cap 1))) 1 ((((tp ++ be (ff t l) 4 ++ be m 2 ++ [kd % 256]).take (tw_cap 1)) ++ [hp % 256]).take (tw_cap 1))) [(0, .ref (tw_ad G 0)), (1, .int (nI t)), (2, .int (nI l)), (3, .int (nI m)), (4, .int (nI kd)), (5, .int (nI hp)), (6, .long (lN a1)), (8, .long (lN a2)), (10, .long (lN a3)), (12, .long (lN a4))] 109 []
              refine TW.sS (S' := tw_uR S 1 ((tp ++ be (ff t l) 4 ++ be m 2 ++ [kd % 256] ++ [hp % 256]).take (tw_cap 1))) (by rw [tw_uR_uR, tk_tk]) ?_
              refine tw_aload_n C dX10_head_109 0 rfl ?_
              refine tw_getR (q := 1) (k := 0) C dX10_head_110 fc_X10 sh_0 (hG 0 (by decide)) rfl (by decide) wd_26 ?_
              refine tw_lload C dX10_head_113 6 rfl ?_
              refine tw_bipush C dX10_head_115 (v := nI 8) (by decide) ?_
              refine tw_callV (As := [.long (lN a1), .int (nI 8)]) (rest := []) C N (e_X7_addNumber hG (S := tw_uR S 1 ((tp ++ be (ff t l) 4 ++ be m 2 ++ [kd % 256] ++ [hp % 256]).take (tw_cap 1))) tw_row1 (xs := (tp ++ be (ff t l) 4 ++ be m 2 ++ [kd % 256] ++ [hp % 256]).take (tw_cap 1)) rfl (v := a1) (i := 8) (by omega) (by omega)) mm_X7_addNumber wd_174 rfl (hG 1 (by decide)) sh_1 rfl (by decide) rfl (Nat.le_of_ble_eq_true rfl) dX10_head_117 ?_
              rintro _ _ rfl
              show TW G X (tw_uR (tw_uR S 1 ((tp ++ be (ff t l) 4 ++ be m 2 ++ [kd % 256] ++ [hp % 256]).take (tw_cap 1))) 1 ((((tp ++ be (ff t l) 4 ++ be m 2 ++ [kd % 256] ++ [hp % 256]).take (tw_cap 1)) ++ be a1 8).take (tw_cap 1))) [(0, .ref (tw_ad G 0)), (1, .int (nI t)), (2, .int (nI l)), (3, .int (nI m)), (4, .int (nI kd)), (5, .int (nI hp)), (6, .long (lN a1)), (8, .long (lN a2)), (10, .long (lN a3)), (12, .long (lN a4))] 120 []
              refine TW.sS (S' := tw_uR S 1 ((tp ++ be (ff t l) 4 ++ be m 2 ++ [kd % 256] ++ [hp % 256] ++ be a1 8).take (tw_cap 1))) (by rw [tw_uR_uR, tk_tk]) ?_
              refine tw_aload_n C dX10_head_120 0 rfl ?_
              refine tw_getR (q := 1) (k := 0) C dX10_head_121 fc_X10 sh_0 (hG 0 (by decide)) rfl (by decide) wd_26 ?_
              refine tw_lload C dX10_head_124 7 rfl ?_
              refine tw_bipush C dX10_head_126 (v := nI 8) (by decide) ?_
              refine tw_callV (As := [.long (lN a2), .int (nI 8)]) (rest := []) C N (e_X7_addNumber hG (S := tw_uR S 1 ((tp ++ be (ff t l) 4 ++ be m 2 ++ [kd % 256] ++ [hp % 256] ++ be a1 8).take (tw_cap 1))) tw_row1 (xs := (tp ++ be (ff t l) 4 ++ be m 2 ++ [kd % 256] ++ [hp % 256] ++ be a1 8).take (tw_cap 1)) rfl (v := a2) (i := 8) (by omega) (by omega)) mm_X7_addNumber wd_174 rfl (hG 1 (by decide)) sh_1 rfl (by decide) rfl (Nat.le_of_ble_eq_true rfl) dX10_head_128 ?_
              rintro _ _ rfl
              show TW G X (tw_uR (tw_uR S 1 ((tp ++ be (ff t l) 4 ++ be m 2 ++ [kd % 256] ++ [hp % 256] ++ be a1 8).take (tw_cap 1))) 1 ((((tp ++ be (ff t l) 4 ++ be m 2 ++ [kd % 256] ++ [hp % 256] ++ be a1 8).take (tw_cap 1)) ++ be a2 8).take (tw_cap 1))) [(0, .ref (tw_ad G 0)), (1, .int (nI t)), (2, .int (nI l)), (3, .int (nI m)), (4, .int (nI kd)), (5, .int (nI hp)), (6, .long (lN a1)), (8, .long (lN a2)), (10, .long (lN a3)), (12, .long (lN a4))] 131 []
              refine TW.sS (S' := tw_uR S 1 ((tp ++ be (ff t l) 4 ++ be m 2 ++ [kd % 256] ++ [hp % 256] ++ be a1 8 ++ be a2 8).take (tw_cap 1))) (by rw [tw_uR_uR, tk_tk]) ?_
              refine tw_aload_n C dX10_head_131 0 rfl ?_
              refine tw_getR (q := 1) (k := 0) C dX10_head_132 fc_X10 sh_0 (hG 0 (by decide)) rfl (by decide) wd_26 ?_
              refine tw_lload C dX10_head_135 8 rfl ?_
              refine tw_bipush C dX10_head_137 (v := nI 8) (by decide) ?_
              refine tw_callV (As := [.long (lN a3), .int (nI 8)]) (rest := []) C N (e_X7_addNumber hG (S := tw_uR S 1 ((tp ++ be (ff t l) 4 ++ be m 2 ++ [kd % 256] ++ [hp % 256] ++ be a1 8 ++ be a2 8).take (tw_cap 1))) tw_row1 (xs := (tp ++ be (ff t l) 4 ++ be m 2 ++ [kd % 256] ++ [hp % 256] ++ be a1 8 ++ be a2 8).take (tw_cap 1)) rfl (v := a3) (i := 8) (by omega) (by omega)) mm_X7_addNumber wd_174 rfl (hG 1 (by decide)) sh_1 rfl (by decide) rfl (Nat.le_of_ble_eq_true rfl) dX10_head_139 ?_
              rintro _ _ rfl
              show TW G X (tw_uR (tw_uR S 1 ((tp ++ be (ff t l) 4 ++ be m 2 ++ [kd % 256] ++ [hp % 256] ++ be a1 8 ++ be a2 8).take (tw_cap 1))) 1 ((((tp ++ be (ff t l) 4 ++ be m 2 ++ [kd % 256] ++ [hp % 256] ++ be a1 8 ++ be a2 8).take (tw_cap 1)) ++ be a3 8).take (tw_cap 1))) [(0, .ref (tw_ad G 0)), (1, .int (nI t)), (2, .int (nI l)), (3, .int (nI m)), (4, .int (nI kd)), (5, .int (nI hp)), (6, .long (lN a1)), (8, .long (lN a2)), (10, .long (lN a3)), (12, .long (lN a4))] 142 []
              refine TW.sS (S' := tw_uR S 1 ((tp ++ be (ff t l) 4 ++ be m 2 ++ [kd % 256] ++ [hp % 256] ++ be a1 8 ++ be a2 8 ++ be a3 8).take (tw_cap 1))) (by rw [tw_uR_uR, tk_tk]) ?_
              refine tw_aload_n C dX10_head_142 0 rfl ?_
              refine tw_getR (q := 1) (k := 0) C dX10_head_143 fc_X10 sh_0 (hG 0 (by decide)) rfl (by decide) wd_26 ?_
              refine tw_lload C dX10_head_146 9 rfl ?_
              refine tw_bipush C dX10_head_148 (v := nI 8) (by decide) ?_
              refine tw_callV (As := [.long (lN a4), .int (nI 8)]) (rest := []) C N (e_X7_addNumber hG (S := tw_uR S 1 ((tp ++ be (ff t l) 4 ++ be m 2 ++ [kd % 256] ++ [hp % 256] ++ be a1 8 ++ be a2 8 ++ be a3 8).take (tw_cap 1))) tw_row1 (xs := (tp ++ be (ff t l) 4 ++ be m 2 ++ [kd % 256] ++ [hp % 256] ++ be a1 8 ++ be a2 8 ++ be a3 8).take (tw_cap 1)) rfl (v := a4) (i := 8) (by omega) (by omega)) mm_X7_addNumber wd_174 rfl (hG 1 (by decide)) sh_1 rfl (by decide) rfl (Nat.le_of_ble_eq_true rfl) dX10_head_150 ?_
              rintro _ _ rfl
              show TW G X (tw_uR (tw_uR S 1 ((tp ++ be (ff t l) 4 ++ be m 2 ++ [kd % 256] ++ [hp % 256] ++ be a1 8 ++ be a2 8 ++ be a3 8).take (tw_cap 1))) 1 ((((tp ++ be (ff t l) 4 ++ be m 2 ++ [kd % 256] ++ [hp % 256] ++ be a1 8 ++ be a2 8 ++ be a3 8).take (tw_cap 1)) ++ be a4 8).take (tw_cap 1))) [(0, .ref (tw_ad G 0)), (1, .int (nI t)), (2, .int (nI l)), (3, .int (nI m)), (4, .int (nI kd)), (5, .int (nI hp)), (6, .long (lN a1)), (8, .long (lN a2)), (10, .long (lN a3)), (12, .long (lN a4))] 153 []
              refine TW.sS (S' := tw_uR S 1 ((tp ++ be (ff t l) 4 ++ be m 2 ++ [kd % 256] ++ [hp % 256] ++ be a1 8 ++ be a2 8 ++ be a3 8 ++ be a4 8).take (tw_cap 1))) (by rw [tw_uR_uR, tk_tk]) ?_
              refine TW.sS (S' := tw_uR S 1 (tp ++ be (ff t l) 4 ++ be m 2 ++ [kd % 256] ++ [hp % 256] ++ be a1 8 ++ be a2 8 ++ be a3 8 ++ be a4 8)) (by rw [List.take_of_length_le (show _ ≤ tw_cap 1 by have := of_decide_eq_true cw; simp only [List.length_append, be_len, List.length_cons, List.length_nil]; show _ ≤ 640; omega)]) ?_
              refine tw_aload_n C dX10_head_153 0 rfl ?_
              refine tw_getR (q := 1) (k := 0) C dX10_head_154 fc_X10 sh_0 (hG 0 (by decide)) rfl (by decide) wd_26 ?_
              refine tw_callV (As := []) (rest := []) C N (e_X7_length hG (S := tw_uR S 1 (tp ++ be (ff t l) 4 ++ be m 2 ++ [kd % 256] ++ [hp % 256] ++ be a1 8 ++ be a2 8 ++ be a3 8 ++ be a4 8)) tw_row1 (xs := tp ++ be (ff t l) 4 ++ be m 2 ++ [kd % 256] ++ [hp % 256] ++ be a1 8 ++ be a2 8 ++ be a3 8 ++ be a4 8) rfl ) mm_X7_length wd_183 rfl (hG 1 (by decide)) sh_1 rfl (by decide) rfl (Nat.le_of_ble_eq_true rfl) dX10_head_157 ?_
              rintro _ _ ⟨rfl, rfl⟩
              show TW G X (tw_uR S 1 (tp ++ be (ff t l) 4 ++ be m 2 ++ [kd % 256] ++ [hp % 256] ++ be a1 8 ++ be a2 8 ++ be a3 8 ++ be a4 8)) [(0, .ref (tw_ad G 0)), (1, .int (nI t)), (2, .int (nI l)), (3, .int (nI m)), (4, .int (nI kd)), (5, .int (nI hp)), (6, .long (lN a1)), (8, .long (lN a2)), (10, .long (lN a3)), (12, .long (lN a4))] 160 [.int (nI ((tp ++ be (ff t l) 4 ++ be m 2 ++ [kd % 256] ++ [hp % 256] ++ be a1 8 ++ be a2 8 ++ be a3 8 ++ be a4 8).length))]
              exact tw_ireturn C Q dX10_head_160 rfl rfl rfl (by rw [if_pos ⟨g1, g2, g3, g4, g5⟩, if_pos (of_decide_eq_true cw)]; exact ⟨rfl, CI_tp hC⟩)
            · skip
              refine tw_bipush C dX10_head_65 (v := (-3)) (by decide) ?_
              exact tw_ireturn C Q dX10_head_67 rfl rfl rfl (by rw [if_pos ⟨g1, g2, g3, g4, g5⟩, if_neg (of_decide_eq_false cw)]; exact ⟨rfl, rfl⟩)
          · have := of_decide_eq_true cg5
            refine tw_iconst C dX10_head_51 (v := (-1)) (by decide) ?_
            exact tw_ireturn C Q dX10_head_52 rfl rfl rfl (by rw [if_neg (by rintro ⟨h1, h2, h3, h4, h5⟩; simp only [decide_eq_true_eq] at *; omega)]; exact ⟨rfl, rfl⟩)
