/-! the receiver's heaps -/
abbrev cH : Type := Bool × Nat × Nat × Nat × Nat × Nat × (Nat → Nat) × List Nat
def hTh (e : cH) : Bool := e.1
def hZ (e : cH) : Nat := e.2.1
def hTg (e : cH) : Nat := e.2.2.1
def hTm (e : cH) : Nat := e.2.2.2.1
def hNp (e : cH) : Nat := e.2.2.2.2.1
def hNb (e : cH) : Nat := e.2.2.2.2.2.1
def hLn (e : cH) : Nat → Nat := e.2.2.2.2.2.2.1
def hXs (e : cH) : List Nat := e.2.2.2.2.2.2.2
def HV (S : tw_S) (h : Nat) (e : cH) : Prop := HP S h (hTh e) (hZ e) (hTg e) (hTm e) (hNp e) (hNb e) (hLn e) (hXs e)
def HBv (e : cH) : Prop := HB (hZ e) (hTg e) (hTm e) (hNp e) (hNb e) (hLn e)
def HS (S : tw_S) (c : Nat → cH) : Prop := ∀ i, i < 3 → HV S (22 + 4 * i) (c i) ∧ HBv (c i)
def endH (e : cH) : cH := (false, e.2)
def lateH (ck : Nat) (e : cH) : Bool := decide (hTh e = true ∧ hTm e + 60 ≤ ck)
def dropH (ck : Nat) (e : cH) : cH := if lateH ck e = true then endH e else e
def sumN (g : Nat → Nat) : Nat → Nat
  | 0 => 0
  | i + 1 => sumN g i + g i
def setH (c : Nat → cH) (i : Nat) (e : cH) : Nat → cH := fun j => if j = i then e else c j
theorem tw_hI {i : Nat} (h : i < 3) : tw_hS (22 + 4 * i) := by unfold tw_hS; omega
theorem sumN_le {g : Nat → Nat} {m : Nat} (h : ∀ j, g j ≤ m) : ∀ i, sumN g i ≤ i * m
  | 0 => by simp [sumN]
  | i + 1 => by
    have := sumN_le h i
    have := h i
    rw [sumN, Nat.add_mul]
    omega
theorem HS_of {S S' : tw_S} {c : Nat → cH} (h : HS S c) (g : ∀ i, i < 3 → tw_R S' (22 + 4 * i + 1) = tw_R S (22 + 4 * i + 1) ∧ tw_I S' (22 + 4 * i) = tw_I S (22 + 4 * i) ∧ tw_A S' (22 + 4 * i + 3) = tw_A S (22 + 4 * i + 3)) : HS S' c := by
  intro i hi
  obtain ⟨a, b⟩ := h i hi
  obtain ⟨g1, g2, g3⟩ := g i hi
  refine ⟨?_, b⟩
  unfold HV HP at a ⊢
  rw [g1, g2, g3]
  exact a
theorem HS_19 {S : tw_S} {c : Nat → cH} {k : Nat} {x : Int32} (h : HS S c) : HS (tw_uI S 19 k x) c := HS_of h (fun i hi => ⟨rfl, by funext j; rw [tq_I_uI, if_neg (by omega)], rfl⟩)
theorem HS_uR {S : tw_S} {c : Nat → cH} {r : Nat} {x : List Nat} (h : HS S c) (hr : r < 22 ∨ 34 ≤ r) : HS (tw_uR S r x) c := HS_of h (fun i hi => ⟨tq_uR_ne _ _ (by omega), rfl, rfl⟩)
theorem HS_put {S S' : tw_S} {c : Nat → cH} {i : Nat} {e : cH} (h : HS S c) (hi : i < 3) (g : hF (22 + 4 * i) S S') (he : HV S' (22 + 4 * i) e) (hb : HBv e) : HS S' (setH c i e) := by
  intro j hj
  unfold setH
  by_cases hji : j = i
  · subst hji
    rw [if_pos rfl]
    exact ⟨he, hb⟩
  · rw [if_neg hji]
    obtain ⟨a, b⟩ := h j hj
    refine ⟨?_, b⟩
    unfold HV HP at a ⊢
    rw [g.1 _ (by omega), g.2.1 _ _ (by omega), g.2.1 _ _ (by omega), g.2.1 _ _ (by omega), g.2.1 _ _ (by omega), g.2.1 _ _ (by omega), g.2.1 _ _ (by omega), g.2.2.2.1 _ (by omega)]
    exact a
theorem HV_end {S : tw_S} {h : Nat} {e : cH} (g : HV S h e) : HV (tw_uI S h 2 (bI false)) h (endH e) := by
  unfold HV HP at g ⊢
  refine ⟨by simp [tq_I_uI, endH, hTh], ?_⟩
  simp only [tq_I_uI, tq_R_uI, tq_A_uI, true_and, if_neg (show ¬ (3 : Nat) = 2 by decide), if_neg (show ¬ (4 : Nat) = 2 by decide), if_neg (show ¬ (5 : Nat) = 2 by decide), if_neg (show ¬ (6 : Nat) = 2 by decide), if_neg (show ¬ (7 : Nat) = 2 by decide)]
  exact g.2
theorem HS_end {S : tw_S} {c : Nat → cH} {i : Nat} (h : HS S c) (hi : i < 3) : HS (tw_uI S (22 + 4 * i) 2 (bI false)) (setH c i (endH (c i))) := HS_put h hi (hF_uI (hF_rf _ _)) (HV_end (h i hi).1) (h i hi).2
def iF (S S' : tw_S) : Prop := tw_R S' = tw_R S ∧ tw_J S' = tw_J S ∧ tw_A S' = tw_A S ∧ tw_B S' = tw_B S ∧ (∀ k, k ≠ 5 → tw_I S' 19 k = tw_I S 19 k) ∧ ∀ r k, r ≠ 19 → ¬ (22 ≤ r ∧ r < 34) → tw_I S' r k = tw_I S r k
theorem iF_rf (S : tw_S) : iF S S := ⟨rfl, rfl, rfl, rfl, fun _ _ => rfl, fun _ _ _ _ => rfl⟩
theorem iF_end {S S' : tw_S} {i : Nat} {x : Int32} (hi : i < 3) (h : iF S S') : iF S (tw_uI S' (22 + 4 * i) 2 x) := ⟨h.1, h.2.1, h.2.2.1, h.2.2.2.1, fun k hk => by rw [← h.2.2.2.2.1 k hk, tq_I_uI, if_neg (by omega)], fun r k h1 h2 => by rw [← h.2.2.2.2.2 r k h1 h2, tq_I_uI, if_neg (by omega)]⟩
theorem iF_19 {S S' : tw_S} {x : Int32} (h : iF S S') : iF S (tw_uI S' 19 5 x) := ⟨h.1, h.2.1, h.2.2.1, h.2.2.2.1, fun k hk => by rw [← h.2.2.2.2.1 k hk, tq_I_uI, if_neg (by omega)], fun r k h1 h2 => by rw [← h.2.2.2.2.2 r k h1 h2, tq_I_uI, if_neg (by omega)]⟩
theorem c_X6_heaps {G : tw_G} (hG : tw_cG G) {S : tw_S} {c : Nat → cH} (hS : HS S c) : tw_M G yX6_heaps cX6_heaps 3 (some .int) 1 20 [.ref (tw_ad G 19)] S ri_I (fun v S' => v = nI (sumN (fun j => if hTh (c j) = true then 1 else 0) 3) ∧ S = S') := by
  refine tw_M.of (L := [(0, .ref (tw_ad G 19))]) (by decide) (Nat.le_of_ble_eq_true rfl) rfl (fun X C N Q => ?_)
  have C : tw_C G X cX6_heaps RX6 := C
  have loop : ∀ (d : Nat) (i : Nat) (_ : i + d = 3), TW G X S [(2, .int (nI i)), (1, .int (nI (sumN (fun j => if hTh (c j) = true then 1 else 0) i))), (0, .ref (tw_ad G 19))] 4 [] := by
    intro d
    induction d with
    | zero =>
      intro i hi
      refine tw_iload_n C dX6_heaps_4 0 rfl ?_
      refine tw_iconst C dX6_heaps_5 (v := nI 3) (by decide) ?_
      refine tn_icmp_ge C dX6_heaps_6 (tgt := 35) (by decide) (by omega) (by omega) (fun c1 => ?_) (fun c1 => ?_)
      · skip
        refine tw_iload_n C dX6_heaps_35 1 rfl ?_
        exact tw_ireturn C Q dX6_heaps_36 rfl rfl rfl ⟨by rw [show i = 3 by omega], rfl⟩
      · exact absurd c1 (by omega)
    | succ d ih =>
      intro i hi
      refine tw_iload_n C dX6_heaps_4 0 rfl ?_
      refine tw_iconst C dX6_heaps_5 (v := nI 3) (by decide) ?_
      refine tn_icmp_ge C dX6_heaps_6 (tgt := 35) (by decide) (by omega) (by omega) (fun c1 => ?_) (fun c1 => ?_)
      · exact absurd c1 (by omega)
      refine tw_iload_n C dX6_heaps_9 1 rfl ?_
      refine tw_aload_n C dX6_heaps_10 2 rfl ?_
      refine tw_getR (q := 20) (k := 1) C dX6_heaps_11 fc_X6 sh_19 (hG 19 (by decide)) rfl (by decide) wd_95 ?_
      refine tw_iload_n C dX6_heaps_14 0 rfl ?_
      refine tw_aald5 C dX6_heaps_15 sn_20 sa_20 (hG 20 (by decide)) (by omega) (by decide) ?_
      refine tw_callV (As := []) (rest := [.int (nI (sumN (fun j => if hTh (c j) = true then 1 else 0) i))]) C N (c_X2_isThere hG (S := S) (tw_hI (i := i) (by omega)) (hS i (by omega)).1 (hS i (by omega)).2 ) mm_X2_isThere wd_523 rfl (hG _ (by omega)) (tw_hp (tw_hI (i := i) (by omega))).2.2.1 rfl (by decide) rfl (Nat.le_of_ble_eq_true rfl) dX6_heaps_16 ?_
      rintro _ _ ⟨rfl, rfl⟩
      show TW G X S [(2, .int (nI i)), (1, .int (nI (sumN (fun j => if hTh (c j) = true then 1 else 0) i))), (0, .ref (tw_ad G 19))] 19 [.int (bI (hTh (c i))), .int (nI (sumN (fun j => if hTh (c j) = true then 1 else 0) i))]
      refine tb_if_eq C dX6_heaps_19 (tgt := 26) (by decide) (fun c19 => ?_) (fun c19 => ?_)
      · skip
        refine tw_iconst C dX6_heaps_26 (v := nI 0) (by decide) ?_
        refine tw_iadd C dX6_heaps_27 (v := nI ((sumN (fun j => if hTh (c j) = true then 1 else 0) i) + 0)) (nI_add _ _) ?_
        refine TW.ti (y := nI (sumN (fun j => if hTh (c j) = true then 1 else 0) (i + 1))) (by rw [sumN]; simp [c19]) ?_
        refine tw_istore_n (L' := [(1, .int (nI (sumN (fun j => if hTh (c j) = true then 1 else 0) (i + 1)))), (2, .int (nI i)), (0, .ref (tw_ad G 19))]) C N dX6_heaps_28 rfl (by decide) rfl ?_
        refine tw_iinc (k := 1) (v := nI (i + 1)) (L' := [(2, .int (nI (i + 1))), (1, .int (nI (sumN (fun j => if hTh (c j) = true then 1 else 0) (i + 1)))), (0, .ref (tw_ad G 19))]) C N dX6_heaps_29 rfl (tn_inc1 _) (by decide) rfl ?_
        refine tw_goto C dX6_heaps_32 (tgt := 4) (by decide) ?_
        refine TW.c (L' := [(2, .int (nI (i + 1))), (1, .int (nI (sumN (fun j => if hTh (c j) = true then 1 else 0) (i + 1)))), (0, .ref (tw_ad G 19))]) (by simp) ?_
        exact ih (i + 1) (by omega)
      · skip
        refine tw_iconst C dX6_heaps_22 (v := nI 1) (by decide) ?_
        refine tw_goto C dX6_heaps_23 (tgt := 27) (by decide) ?_
        refine tw_iadd C dX6_heaps_27 (v := nI ((sumN (fun j => if hTh (c j) = true then 1 else 0) i) + 1)) (nI_add _ _) ?_
        refine TW.ti (y := nI (sumN (fun j => if hTh (c j) = true then 1 else 0) (i + 1))) (by rw [sumN]; simp [c19]) ?_
        refine tw_istore_n (L' := [(1, .int (nI (sumN (fun j => if hTh (c j) = true then 1 else 0) (i + 1)))), (2, .int (nI i)), (0, .ref (tw_ad G 19))]) C N dX6_heaps_28 rfl (by decide) rfl ?_
        refine tw_iinc (k := 1) (v := nI (i + 1)) (L' := [(2, .int (nI (i + 1))), (1, .int (nI (sumN (fun j => if hTh (c j) = true then 1 else 0) (i + 1)))), (0, .ref (tw_ad G 19))]) C N dX6_heaps_29 rfl (tn_inc1 _) (by decide) rfl ?_
        refine tw_goto C dX6_heaps_32 (tgt := 4) (by decide) ?_
        refine TW.c (L' := [(2, .int (nI (i + 1))), (1, .int (nI (sumN (fun j => if hTh (c j) = true then 1 else 0) (i + 1)))), (0, .ref (tw_ad G 19))]) (by simp) ?_
        exact ih (i + 1) (by omega)
  refine tw_iconst C dX6_heaps_0 (v := nI 0) (by decide) ?_
  refine tw_istore_n (L' := [(1, .int (nI 0)), (0, .ref (tw_ad G 19))]) C N dX6_heaps_1 rfl (by decide) rfl ?_
  refine tw_iconst C dX6_heaps_2 (v := nI 0) (by decide) ?_
  refine tw_istore_n (L' := [(2, .int (nI 0)), (1, .int (nI 0)), (0, .ref (tw_ad G 19))]) C N dX6_heaps_3 rfl (by decide) rfl ?_
  refine TW.c (L' := [(2, .int (nI 0)), (1, .int (nI (sumN (fun j => if hTh (c j) = true then 1 else 0) 0))), (0, .ref (tw_ad G 19))]) (by simp [sumN]) ?_
  exact loop 3 0 rfl
theorem c_X6_parts {G : tw_G} (hG : tw_cG G) {S : tw_S} {c : Nat → cH} (hS : HS S c) : tw_M G yX6_parts cX6_parts 3 (some .int) 1 20 [.ref (tw_ad G 19)] S ri_I (fun v S' => v = nI (sumN (fun j => if hTh (c j) = true then hNp (c j) else 0) 3) ∧ S = S') := by
  refine tw_M.of (L := [(0, .ref (tw_ad G 19))]) (by decide) (Nat.le_of_ble_eq_true rfl) rfl (fun X C N Q => ?_)
  have C : tw_C G X cX6_parts RX6 := C
  have loop : ∀ (d : Nat) (i : Nat) (_ : i + d = 3), TW G X S [(2, .int (nI i)), (1, .int (nI (sumN (fun j => if hTh (c j) = true then hNp (c j) else 0) i))), (0, .ref (tw_ad G 19))] 4 [] := by
    intro d
    induction d with
    | zero =>
      intro i hi
      refine tw_iload_n C dX6_parts_4 0 rfl ?_
      refine tw_iconst C dX6_parts_5 (v := nI 3) (by decide) ?_
      refine tn_icmp_ge C dX6_parts_6 (tgt := 27) (by decide) (by omega) (by omega) (fun c1 => ?_) (fun c1 => ?_)
      · skip
        refine tw_iload_n C dX6_parts_27 1 rfl ?_
        exact tw_ireturn C Q dX6_parts_28 rfl rfl rfl ⟨by rw [show i = 3 by omega], rfl⟩
      · exact absurd c1 (by omega)
    | succ d ih =>
      intro i hi
      refine tw_iload_n C dX6_parts_4 0 rfl ?_
      refine tw_iconst C dX6_parts_5 (v := nI 3) (by decide) ?_
      refine tn_icmp_ge C dX6_parts_6 (tgt := 27) (by decide) (by omega) (by omega) (fun c1 => ?_) (fun c1 => ?_)
      · exact absurd c1 (by omega)
      refine tw_iload_n C dX6_parts_9 1 rfl ?_
      refine tw_aload_n C dX6_parts_10 2 rfl ?_
      refine tw_getR (q := 20) (k := 1) C dX6_parts_11 fc_X6 sh_19 (hG 19 (by decide)) rfl (by decide) wd_95 ?_
      refine tw_iload_n C dX6_parts_14 0 rfl ?_
      refine tw_aald5 C dX6_parts_15 sn_20 sa_20 (hG 20 (by decide)) (by omega) (by decide) ?_
      refine tw_callV (As := []) (rest := [.int (nI (sumN (fun j => if hTh (c j) = true then hNp (c j) else 0) i))]) C N (c_X2_parts hG (S := S) (tw_hI (i := i) (by omega)) (hS i (by omega)).1 (hS i (by omega)).2 ) mm_X2_parts wd_592 rfl (hG _ (by omega)) (tw_hp (tw_hI (i := i) (by omega))).2.2.1 rfl (by decide) rfl (Nat.le_of_ble_eq_true rfl) dX6_parts_16 ?_
      rintro _ _ ⟨rfl, rfl⟩
      show TW G X S [(2, .int (nI i)), (1, .int (nI (sumN (fun j => if hTh (c j) = true then hNp (c j) else 0) i))), (0, .ref (tw_ad G 19))] 19 [.int (nI (if hTh (c i) = true then hNp (c i) else 0)), .int (nI (sumN (fun j => if hTh (c j) = true then hNp (c j) else 0) i))]
      refine tw_iadd C dX6_parts_19 (v := nI ((sumN (fun j => if hTh (c j) = true then hNp (c j) else 0) i) + (if hTh (c i) = true then hNp (c i) else 0))) (nI_add _ _) ?_
      show TW G X S [(2, .int (nI i)), (1, .int (nI (sumN (fun j => if hTh (c j) = true then hNp (c j) else 0) i))), (0, .ref (tw_ad G 19))] 20 [.int (nI (sumN (fun j => if hTh (c j) = true then hNp (c j) else 0) (i + 1)))]
      refine tw_istore_n (L' := [(1, .int (nI (sumN (fun j => if hTh (c j) = true then hNp (c j) else 0) (i + 1)))), (2, .int (nI i)), (0, .ref (tw_ad G 19))]) C N dX6_parts_20 rfl (by decide) rfl ?_
      refine tw_iinc (k := 1) (v := nI (i + 1)) (L' := [(2, .int (nI (i + 1))), (1, .int (nI (sumN (fun j => if hTh (c j) = true then hNp (c j) else 0) (i + 1)))), (0, .ref (tw_ad G 19))]) C N dX6_parts_21 rfl (tn_inc1 _) (by decide) rfl ?_
      refine tw_goto C dX6_parts_24 (tgt := 4) (by decide) ?_
      refine TW.c (L' := [(2, .int (nI (i + 1))), (1, .int (nI (sumN (fun j => if hTh (c j) = true then hNp (c j) else 0) (i + 1)))), (0, .ref (tw_ad G 19))]) (by simp) ?_
      exact ih (i + 1) (by omega)
  refine tw_iconst C dX6_parts_0 (v := nI 0) (by decide) ?_
  refine tw_istore_n (L' := [(1, .int (nI 0)), (0, .ref (tw_ad G 19))]) C N dX6_parts_1 rfl (by decide) rfl ?_
  refine tw_iconst C dX6_parts_2 (v := nI 0) (by decide) ?_
  refine tw_istore_n (L' := [(2, .int (nI 0)), (1, .int (nI 0)), (0, .ref (tw_ad G 19))]) C N dX6_parts_3 rfl (by decide) rfl ?_
  refine TW.c (L' := [(2, .int (nI 0)), (1, .int (nI (sumN (fun j => if hTh (c j) = true then hNp (c j) else 0) 0))), (0, .ref (tw_ad G 19))]) (by simp [sumN]) ?_
  exact loop 3 0 rfl
theorem c_X6_bytes {G : tw_G} (hG : tw_cG G) {S : tw_S} {c : Nat → cH} (hS : HS S c) : tw_M G yX6_bytes cX6_bytes 3 (some .int) 1 20 [.ref (tw_ad G 19)] S ri_I (fun v S' => v = nI (sumN (fun j => if hTh (c j) = true then hNb (c j) else 0) 3) ∧ S = S') := by
  refine tw_M.of (L := [(0, .ref (tw_ad G 19))]) (by decide) (Nat.le_of_ble_eq_true rfl) rfl (fun X C N Q => ?_)
  have C : tw_C G X cX6_bytes RX6 := C
  have loop : ∀ (d : Nat) (i : Nat) (_ : i + d = 3), TW G X S [(2, .int (nI i)), (1, .int (nI (sumN (fun j => if hTh (c j) = true then hNb (c j) else 0) i))), (0, .ref (tw_ad G 19))] 4 [] := by
    intro d
    induction d with
    | zero =>
      intro i hi
      refine tw_iload_n C dX6_bytes_4 0 rfl ?_
      refine tw_iconst C dX6_bytes_5 (v := nI 3) (by decide) ?_
      refine tn_icmp_ge C dX6_bytes_6 (tgt := 27) (by decide) (by omega) (by omega) (fun c1 => ?_) (fun c1 => ?_)
      · skip
        refine tw_iload_n C dX6_bytes_27 1 rfl ?_
        exact tw_ireturn C Q dX6_bytes_28 rfl rfl rfl ⟨by rw [show i = 3 by omega], rfl⟩
      · exact absurd c1 (by omega)
    | succ d ih =>
      intro i hi
      refine tw_iload_n C dX6_bytes_4 0 rfl ?_
      refine tw_iconst C dX6_bytes_5 (v := nI 3) (by decide) ?_
      refine tn_icmp_ge C dX6_bytes_6 (tgt := 27) (by decide) (by omega) (by omega) (fun c1 => ?_) (fun c1 => ?_)
      · exact absurd c1 (by omega)
      refine tw_iload_n C dX6_bytes_9 1 rfl ?_
      refine tw_aload_n C dX6_bytes_10 2 rfl ?_
      refine tw_getR (q := 20) (k := 1) C dX6_bytes_11 fc_X6 sh_19 (hG 19 (by decide)) rfl (by decide) wd_95 ?_
      refine tw_iload_n C dX6_bytes_14 0 rfl ?_
      refine tw_aald5 C dX6_bytes_15 sn_20 sa_20 (hG 20 (by decide)) (by omega) (by decide) ?_
      refine tw_callV (As := []) (rest := [.int (nI (sumN (fun j => if hTh (c j) = true then hNb (c j) else 0) i))]) C N (c_X2_bytes hG (S := S) (tw_hI (i := i) (by omega)) (hS i (by omega)).1 (hS i (by omega)).2 ) mm_X2_bytes wd_600 rfl (hG _ (by omega)) (tw_hp (tw_hI (i := i) (by omega))).2.2.1 rfl (by decide) rfl (Nat.le_of_ble_eq_true rfl) dX6_bytes_16 ?_
      rintro _ _ ⟨rfl, rfl⟩
      show TW G X S [(2, .int (nI i)), (1, .int (nI (sumN (fun j => if hTh (c j) = true then hNb (c j) else 0) i))), (0, .ref (tw_ad G 19))] 19 [.int (nI (if hTh (c i) = true then hNb (c i) else 0)), .int (nI (sumN (fun j => if hTh (c j) = true then hNb (c j) else 0) i))]
      refine tw_iadd C dX6_bytes_19 (v := nI ((sumN (fun j => if hTh (c j) = true then hNb (c j) else 0) i) + (if hTh (c i) = true then hNb (c i) else 0))) (nI_add _ _) ?_
      show TW G X S [(2, .int (nI i)), (1, .int (nI (sumN (fun j => if hTh (c j) = true then hNb (c j) else 0) i))), (0, .ref (tw_ad G 19))] 20 [.int (nI (sumN (fun j => if hTh (c j) = true then hNb (c j) else 0) (i + 1)))]
      refine tw_istore_n (L' := [(1, .int (nI (sumN (fun j => if hTh (c j) = true then hNb (c j) else 0) (i + 1)))), (2, .int (nI i)), (0, .ref (tw_ad G 19))]) C N dX6_bytes_20 rfl (by decide) rfl ?_
      refine tw_iinc (k := 1) (v := nI (i + 1)) (L' := [(2, .int (nI (i + 1))), (1, .int (nI (sumN (fun j => if hTh (c j) = true then hNb (c j) else 0) (i + 1)))), (0, .ref (tw_ad G 19))]) C N dX6_bytes_21 rfl (tn_inc1 _) (by decide) rfl ?_
      refine tw_goto C dX6_bytes_24 (tgt := 4) (by decide) ?_
      refine TW.c (L' := [(2, .int (nI (i + 1))), (1, .int (nI (sumN (fun j => if hTh (c j) = true then hNb (c j) else 0) (i + 1)))), (0, .ref (tw_ad G 19))]) (by simp) ?_
      exact ih (i + 1) (by omega)
  refine tw_iconst C dX6_bytes_0 (v := nI 0) (by decide) ?_
  refine tw_istore_n (L' := [(1, .int (nI 0)), (0, .ref (tw_ad G 19))]) C N dX6_bytes_1 rfl (by decide) rfl ?_
  refine tw_iconst C dX6_bytes_2 (v := nI 0) (by decide) ?_
  refine tw_istore_n (L' := [(2, .int (nI 0)), (1, .int (nI 0)), (0, .ref (tw_ad G 19))]) C N dX6_bytes_3 rfl (by decide) rfl ?_
  refine TW.c (L' := [(2, .int (nI 0)), (1, .int (nI (sumN (fun j => if hTh (c j) = true then hNb (c j) else 0) 0))), (0, .ref (tw_ad G 19))]) (by simp [sumN]) ?_
  exact loop 3 0 rfl
theorem sub_neg {a b : Nat} (ha : a < 2 ^ 30) (hb : b < 2 ^ 30) (h : a < b) : nI a - nI b < 0 := by
  have := nI_ge0 ha hb h
  rw [Int32.le_iff_toInt_le] at this
  rw [Int32.lt_iff_toInt_lt]
  omega
theorem lateH_neg {ck : Nat} {e : cH} (h : ck < 60) : lateH ck e = false := by
  simp only [lateH, decide_eq_false_iff_not]
  omega
theorem lateH_sub {ck : Nat} {e : cH} (h : 60 ≤ ck) : decide (hTh e = true ∧ hTm e ≤ ck - 60) = lateH ck e := by
  unfold lateH
  exact decide_eq_decide.mpr (and_congr_right (fun _ => by omega))
def mixH (ck : Nat) (c : Nat → cH) (i : Nat) : Nat → cH := fun j => if j < i then dropH ck (c j) else c j
theorem mixH_at (ck : Nat) (c : Nat → cH) (i : Nat) : mixH ck c i i = c i := if_neg (Nat.lt_irrefl i)
theorem mixH_no {ck : Nat} {c : Nat → cH} {i : Nat} (h : lateH ck (c i) = false) : mixH ck c (i + 1) = mixH ck c i := by
  funext j
  unfold mixH
  by_cases h1 : j < i
  · rw [if_pos h1, if_pos (by omega)]
  · by_cases h2 : j = i
    · subst h2
      rw [if_neg h1, if_pos (by omega), dropH, if_neg (by rw [h]; decide)]
    · rw [if_neg h1, if_neg (by omega)]
theorem mixH_yes {ck : Nat} {c : Nat → cH} {i : Nat} (h : lateH ck (c i) = true) : mixH ck c (i + 1) = setH (mixH ck c i) i (endH (mixH ck c i i)) := by
  funext j
  unfold setH
  rw [mixH_at]
  unfold mixH
  by_cases h2 : j = i
  · subst h2
    rw [if_pos (by omega), if_pos rfl, dropH, if_pos h]
  · rw [if_neg h2]
    by_cases h1 : j < i
    · rw [if_pos h1, if_pos (by omega)]
    · rw [if_neg h1, if_neg (by omega)]
theorem HS_cg {S : tw_S} {c d : Nat → cH} (h : HS S c) (g : ∀ i, i < 3 → c i = d i) : HS S d := fun i hi => by rw [← g i hi]; exact h i hi
theorem c_X6_dropLateHeaps {G : tw_G} (hG : tw_cG G) {S : tw_S} {c : Nat → cH} (hS : HS S c) {ck la : Nat} (hck0 : tw_I S 19 2 = nI ck) (hckb : ck < 2 ^ 20) (hl0 : tw_I S 19 5 = nI la) : tw_M G yX6_dropLateHeaps cX6_dropLateHeaps 2 none 1 21 [.ref (tw_ad G 19)] S ri_V (fun _ S' => HS S' (fun j => dropH ck (c j)) ∧ tw_I S' 19 5 = nI (la + sumN (fun j => if lateH ck (c j) = true then 1 else 0) 3) ∧ iF S S') := by
  refine tw_M.of (L := [(0, .ref (tw_ad G 19))]) (by decide) (Nat.le_of_ble_eq_true rfl) rfl (fun X C N Q => ?_)
  have C : tw_C G X cX6_dropLateHeaps RX6 := C
  have loop : ∀ (d : Nat) (i : Nat) (S1 : tw_S) (_ : i + d = 3) (hS1 : HS S1 (mixH ck c i)) (_ : tw_I S1 19 5 = nI (la + sumN (fun j => if lateH ck (c j) = true then 1 else 0) i)) (_ : iF S S1), TW G X S1 [(1, .int (nI i)), (0, .ref (tw_ad G 19))] 2 [] := by
    intro d
    induction d with
    | zero =>
      intro i S1 hi hS1 hl1 hF1
      refine tw_iload_n C dX6_dropLateHeaps_2 0 rfl ?_
      refine tw_iconst C dX6_dropLateHeaps_3 (v := nI 3) (by decide) ?_
      refine tn_icmp_ge C dX6_dropLateHeaps_4 (tgt := 51) (by decide) (by omega) (by omega) (fun c1 => ?_) (fun c1 => ?_)
      · skip
        exact tw_return (v := ()) C Q dX6_dropLateHeaps_51 rfl rfl ⟨HS_cg (c := mixH ck c 3) (by rw [show 3 = i by omega]; exact hS1) (fun j hj => if_pos hj), by rw [show 3 = i by omega]; exact hl1, hF1⟩
      · exact absurd c1 (by omega)
    | succ d ih =>
      intro i S1 hi hS1 hl1 hF1
      refine tw_iload_n C dX6_dropLateHeaps_2 0 rfl ?_
      refine tw_iconst C dX6_dropLateHeaps_3 (v := nI 3) (by decide) ?_
      refine tn_icmp_ge C dX6_dropLateHeaps_4 (tgt := 51) (by decide) (by omega) (by omega) (fun c1 => ?_) (fun c1 => ?_)
      · exact absurd c1 (by omega)
      rcases Nat.lt_or_ge ck 60 with hck | hck
      · have hlt0 : lateH ck (c i) = false := lateH_neg hck
        have hVi : HV S1 (22 + 4 * i) (c i) ∧ HBv (c i) := by
          have h0 := hS1 i (by omega)
          rwa [mixH_at] at h0
        refine tw_aload_n C dX6_dropLateHeaps_7 1 rfl ?_
        refine tw_getR (q := 20) (k := 1) C dX6_dropLateHeaps_8 fc_X6 sh_19 (hG 19 (by decide)) rfl (by decide) wd_95 ?_
        refine tw_iload_n C dX6_dropLateHeaps_11 0 rfl ?_
        refine tw_aald5 C dX6_dropLateHeaps_12 sn_20 sa_20 (hG 20 (by decide)) (by omega) (by decide) ?_
        refine tw_aload_n C dX6_dropLateHeaps_13 1 rfl ?_
        refine tw_getI (v := nI ck) (k := 2) C dX6_dropLateHeaps_14 fc_X6 sh_19 (hG 19 (by decide)) rfl (by decide) wd_496 ((hF1.2.2.2.2.1 2 (by decide)).trans hck0) ?_
        refine tw_bipush C dX6_dropLateHeaps_17 (v := nI 60) (by decide) ?_
        refine tw_isub C dX6_dropLateHeaps_19 (v := (nI ck) - (nI 60)) rfl ?_
        refine tw_callV (As := [.int ((nI ck) - (nI 60))]) (rest := []) C N (c_X2_beganBy0 hG (S := S1) (tw_hI (i := i) (by omega)) hVi.1 hVi.2 (x := (nI ck) - (nI 60)) (sub_neg (by omega) (by decide) hck)) mm_X2_beganBy wd_503 rfl (hG _ (by omega)) (tw_hp (tw_hI (i := i) (by omega))).2.2.1 rfl (by decide) rfl (Nat.le_of_ble_eq_true rfl) dX6_dropLateHeaps_20 ?_
        rintro _ _ ⟨rfl, rfl⟩
        show TW G X S1 [(1, .int (nI i)), (0, .ref (tw_ad G 19))] 23 [.int (nI 0)]
        refine tn_if_eq C dX6_dropLateHeaps_23 (tgt := 45) (by decide) (by omega) (fun c23 => ?_) (fun c23 => ?_)
        · skip
          refine tw_iinc (k := 0) (v := nI (i + 1)) (L' := [(1, .int (nI (i + 1))), (0, .ref (tw_ad G 19))]) C N dX6_dropLateHeaps_45 rfl (tn_inc1 _) (by decide) rfl ?_
          refine tw_goto C dX6_dropLateHeaps_48 (tgt := 2) (by decide) ?_
          refine TW.c (L' := [(1, .int (nI (i + 1))), (0, .ref (tw_ad G 19))]) (by simp) ?_
          exact ih (i + 1) _ (by omega) (by rw [mixH_no hlt0]; exact hS1) (by rw [sumN, if_neg (by rw [hlt0]; decide)]; exact hl1) hF1
        · exact absurd rfl c23
      · skip
        have hVi : HV S1 (22 + 4 * i) (c i) ∧ HBv (c i) := by
          have h0 := hS1 i (by omega)
          rwa [mixH_at] at h0
        refine tw_aload_n C dX6_dropLateHeaps_7 1 rfl ?_
        refine tw_getR (q := 20) (k := 1) C dX6_dropLateHeaps_8 fc_X6 sh_19 (hG 19 (by decide)) rfl (by decide) wd_95 ?_
        refine tw_iload_n C dX6_dropLateHeaps_11 0 rfl ?_
        refine tw_aald5 C dX6_dropLateHeaps_12 sn_20 sa_20 (hG 20 (by decide)) (by omega) (by decide) ?_
        refine tw_aload_n C dX6_dropLateHeaps_13 1 rfl ?_
        refine tw_getI (v := nI ck) (k := 2) C dX6_dropLateHeaps_14 fc_X6 sh_19 (hG 19 (by decide)) rfl (by decide) wd_496 ((hF1.2.2.2.2.1 2 (by decide)).trans hck0) ?_
        refine tw_bipush C dX6_dropLateHeaps_17 (v := nI 60) (by decide) ?_
        refine tw_isub C dX6_dropLateHeaps_19 (v := nI (ck - 60)) (pk_sub (by omega)) ?_
        refine tw_callV (As := [.int (nI (ck - 60))]) (rest := []) C N (c_X2_beganBy1 hG (S := S1) (tw_hI (i := i) (by omega)) hVi.1 hVi.2 (l := ck - 60) (by omega)) mm_X2_beganBy wd_503 rfl (hG _ (by omega)) (tw_hp (tw_hI (i := i) (by omega))).2.2.1 rfl (by decide) rfl (Nat.le_of_ble_eq_true rfl) dX6_dropLateHeaps_20 ?_
        rintro _ _ ⟨rfl, rfl⟩
        show TW G X S1 [(1, .int (nI i)), (0, .ref (tw_ad G 19))] 23 [.int (bI (decide (hTh (c i) = true ∧ hTm (c i) ≤ ck - 60)))]
        refine tb_if_eq C dX6_dropLateHeaps_23 (tgt := 45) (by decide) (fun c23 => ?_) (fun c23 => ?_)
        · rw [lateH_sub hck] at c23
          have hlt0 := c23
          refine tw_iinc (k := 0) (v := nI (i + 1)) (L' := [(1, .int (nI (i + 1))), (0, .ref (tw_ad G 19))]) C N dX6_dropLateHeaps_45 rfl (tn_inc1 _) (by decide) rfl ?_
          refine tw_goto C dX6_dropLateHeaps_48 (tgt := 2) (by decide) ?_
          refine TW.c (L' := [(1, .int (nI (i + 1))), (0, .ref (tw_ad G 19))]) (by simp) ?_
          exact ih (i + 1) _ (by omega) (by rw [mixH_no hlt0]; exact hS1) (by rw [sumN, if_neg (by rw [hlt0]; decide)]; exact hl1) hF1
        · rw [lateH_sub hck] at c23
          have hlt0 := c23
          refine tw_aload_n C dX6_dropLateHeaps_26 1 rfl ?_
          refine tw_getR (q := 20) (k := 1) C dX6_dropLateHeaps_27 fc_X6 sh_19 (hG 19 (by decide)) rfl (by decide) wd_95 ?_
          refine tw_iload_n C dX6_dropLateHeaps_30 0 rfl ?_
          refine tw_aald5 C dX6_dropLateHeaps_31 sn_20 sa_20 (hG 20 (by decide)) (by omega) (by decide) ?_
          refine tw_callV (As := []) (rest := []) C N (c_X2_end hG (S := S1) (tw_hI (i := i) (by omega))) mm_X2_end wd_509 rfl (hG _ (by omega)) (tw_hp (tw_hI (i := i) (by omega))).2.2.1 rfl (by decide) rfl (Nat.le_of_ble_eq_true rfl) dX6_dropLateHeaps_32 ?_
          rintro _ _ rfl
          show TW G X (tw_uI S1 (22 + 4 * i) 2 (bI false)) [(1, .int (nI i)), (0, .ref (tw_ad G 19))] 35 []
          refine tw_aload_n C dX6_dropLateHeaps_35 1 rfl ?_
          refine tw_dup C dX6_dropLateHeaps_36 rfl ?_
          refine tw_getI (v := nI (la + sumN (fun j => if lateH ck (c j) = true then 1 else 0) i)) (k := 5) C dX6_dropLateHeaps_37 fc_X6 sh_19 (hG 19 (by decide)) rfl (by decide) wd_502 (by rw [tq_I_uI, if_neg (by omega)]; exact hl1) ?_
          refine tw_iconst C dX6_dropLateHeaps_40 (v := nI 1) (by decide) ?_
          refine tw_iadd C dX6_dropLateHeaps_41 (v := nI ((la + sumN (fun j => if lateH ck (c j) = true then 1 else 0) i) + 1)) (nI_add _ _) ?_
          refine tw_putI (k := 5) C dX6_dropLateHeaps_42 fc_X6 sh_19 (hG 19 (by decide)) rfl (by decide) rfl wd_502 rfl rfl ?_
          refine tw_iinc (k := 0) (v := nI (i + 1)) (L' := [(1, .int (nI (i + 1))), (0, .ref (tw_ad G 19))]) C N dX6_dropLateHeaps_45 rfl (tn_inc1 _) (by decide) rfl ?_
          refine tw_goto C dX6_dropLateHeaps_48 (tgt := 2) (by decide) ?_
          refine TW.c (L' := [(1, .int (nI (i + 1))), (0, .ref (tw_ad G 19))]) (by simp) ?_
          exact ih (i + 1) _ (by omega) (by rw [mixH_yes hlt0]; exact HS_19 (HS_end hS1 (i := i) (by omega))) (by rw [sumN, if_pos hlt0]; exact rfl) (iF_19 (iF_end (by omega) hF1))
  refine tw_iconst C dX6_dropLateHeaps_0 (v := nI 0) (by decide) ?_
  refine tw_istore_n (L' := [(1, .int (nI 0)), (0, .ref (tw_ad G 19))]) C N dX6_dropLateHeaps_1 rfl (by decide) rfl ?_
  exact loop 3 0 S rfl (HS_cg hS (fun i hi => (if_neg (by omega)).symm)) hl0 (iF_rf S)
def isOfB (e : cH) (z t : Nat) : Bool := decide (hTh e = true ∧ hZ e = z ∧ hTg e = t)
def idxH (z t : Nat) (c : Nat → cH) : Nat := if isOfB (c 0) z t = true then 0 else if isOfB (c 1) z t = true then 1 else if isOfB (c 2) z t = true then 2 else if hTh (c 2) = false then 2 else if hTh (c 1) = false then 1 else 0
theorem idxH_lt (z t : Nat) (c : Nat → cH) : idxH z t c < 3 := by
  unfold idxH
  repeat' split
  all_goals decide
theorem c_X6_indexFor {G : tw_G} (hG : tw_cG G) {S : tw_S} {c : Nat → cH} (hS : HS S c) {z1 t1 : Nat} (hz1 : z1 < 2 ^ 20) (ht1 : t1 < 2 ^ 20) : tw_M G yX6_indexFor cX6_indexFor 5 (some .int) 1 22 [.ref (tw_ad G 19), .int (nI z1), .int (nI t1)] S ri_I (fun v S' => v = nI (idxH z1 t1 c) ∧ S = S') := by
  refine tw_M.of (L := [(0, .ref (tw_ad G 19)), (1, .int (nI z1)), (2, .int (nI t1))]) (by decide) (Nat.le_of_ble_eq_true rfl) rfl (fun X C N Q => ?_)
  have C : tw_C G X cX6_indexFor RX6 := C
  refine tw_iconst C dX6_indexFor_0 (v := nI 0) (by decide) ?_
  refine tw_istore_n (L' := [(3, .int (nI 0)), (0, .ref (tw_ad G 19)), (1, .int (nI z1)), (2, .int (nI t1))]) C N dX6_indexFor_1 rfl (by decide) rfl ?_
  refine tw_iconst C dX6_indexFor_2 (v := nI 0) (by decide) ?_
  refine tw_istore (L' := [(4, .int (nI 0)), (3, .int (nI 0)), (0, .ref (tw_ad G 19)), (1, .int (nI z1)), (2, .int (nI t1))]) C N dX6_indexFor_3 (i := 4) (by decide) rfl ?_
  show TW G X S [(4, .int (nI 0)), (3, .int (nI 0)), (0, .ref (tw_ad G 19)), (1, .int (nI z1)), (2, .int (nI t1))] 5 []
  refine tw_iload C dX6_indexFor_5 0 rfl ?_
  refine tw_iconst C dX6_indexFor_7 (v := nI 3) (by decide) ?_
  refine tn_icmp_ge C dX6_indexFor_8 (tgt := 51) (by decide) (by omega) (by omega) (fun c1 => ?_) (fun c1 => ?_)
  · exact absurd c1 (by decide)
  refine tw_aload_n C dX6_indexFor_11 2 rfl ?_
  refine tw_getR (q := 20) (k := 1) C dX6_indexFor_12 fc_X6 sh_19 (hG 19 (by decide)) rfl (by decide) wd_95 ?_
  refine tw_iload C dX6_indexFor_15 0 rfl ?_
  refine tw_aald5 C dX6_indexFor_17 sn_20 sa_20 (hG 20 (by decide)) (by omega) (by decide) ?_
  refine tw_iload_n C dX6_indexFor_18 3 rfl ?_
  refine tw_iload_n C dX6_indexFor_19 4 rfl ?_
  refine tw_callV (As := [.int (nI z1), .int (nI t1)]) (rest := []) C N (c_X2_isOf hG (S := S) (tw_hI (i := 0) (by omega)) (hS 0 (by omega)).1 (hS 0 (by omega)).2 (z1 := z1) (t1 := t1) (by omega) (by omega)) mm_X2_isOf wd_517 rfl (hG _ (by omega)) (tw_hp (tw_hI (i := 0) (by omega))).2.2.1 rfl (by decide) rfl (Nat.le_of_ble_eq_true rfl) dX6_indexFor_20 ?_
  rintro _ _ ⟨rfl, rfl⟩
  show TW G X S [(4, .int (nI 0)), (3, .int (nI 0)), (0, .ref (tw_ad G 19)), (1, .int (nI z1)), (2, .int (nI t1))] 23 [.int (bI (isOfB (c 0) z1 t1))]
  refine tb_if_eq C dX6_indexFor_23 (tgt := 29) (by decide) (fun c3 => ?_) (fun c3 => ?_)
  · skip
    refine tw_aload_n C dX6_indexFor_29 2 rfl ?_
    refine tw_getR (q := 20) (k := 1) C dX6_indexFor_30 fc_X6 sh_19 (hG 19 (by decide)) rfl (by decide) wd_95 ?_
    refine tw_iload C dX6_indexFor_33 0 rfl ?_
    refine tw_aald5 C dX6_indexFor_35 sn_20 sa_20 (hG 20 (by decide)) (by omega) (by decide) ?_
    refine tw_callV (As := []) (rest := []) C N (c_X2_isThere hG (S := S) (tw_hI (i := 0) (by omega)) (hS 0 (by omega)).1 (hS 0 (by omega)).2 ) mm_X2_isThere wd_523 rfl (hG _ (by omega)) (tw_hp (tw_hI (i := 0) (by omega))).2.2.1 rfl (by decide) rfl (Nat.le_of_ble_eq_true rfl) dX6_indexFor_36 ?_
    rintro _ _ ⟨rfl, rfl⟩
    show TW G X S [(4, .int (nI 0)), (3, .int (nI 0)), (0, .ref (tw_ad G 19)), (1, .int (nI z1)), (2, .int (nI t1))] 39 [.int (bI (hTh (c 0)))]
    refine tb_if_ne C dX6_indexFor_39 (tgt := 45) (by decide) (fun c5 => ?_) (fun c5 => ?_)
    · skip
      refine tw_iinc (k := 0) (v := nI (0 + 1)) (L' := [(4, .int (nI (0 + 1))), (3, .int (nI 0)), (0, .ref (tw_ad G 19)), (1, .int (nI z1)), (2, .int (nI t1))]) C N dX6_indexFor_45 rfl (tn_inc1 _) (by decide) rfl ?_
      refine tw_goto C dX6_indexFor_48 (tgt := 5) (by decide) ?_
      show TW G X S [(4, .int (nI 1)), (3, .int (nI 0)), (0, .ref (tw_ad G 19)), (1, .int (nI z1)), (2, .int (nI t1))] 5 []
      refine tw_iload C dX6_indexFor_5 0 rfl ?_
      refine tw_iconst C dX6_indexFor_7 (v := nI 3) (by decide) ?_
      refine tn_icmp_ge C dX6_indexFor_8 (tgt := 51) (by decide) (by omega) (by omega) (fun c6 => ?_) (fun c6 => ?_)
      · exact absurd c6 (by decide)
      refine tw_aload_n C dX6_indexFor_11 2 rfl ?_
      refine tw_getR (q := 20) (k := 1) C dX6_indexFor_12 fc_X6 sh_19 (hG 19 (by decide)) rfl (by decide) wd_95 ?_
      refine tw_iload C dX6_indexFor_15 0 rfl ?_
      refine tw_aald5 C dX6_indexFor_17 sn_20 sa_20 (hG 20 (by decide)) (by omega) (by decide) ?_
      refine tw_iload_n C dX6_indexFor_18 3 rfl ?_
      refine tw_iload_n C dX6_indexFor_19 4 rfl ?_
      refine tw_callV (As := [.int (nI z1), .int (nI t1)]) (rest := []) C N (c_X2_isOf hG (S := S) (tw_hI (i := 1) (by omega)) (hS 1 (by omega)).1 (hS 1 (by omega)).2 (z1 := z1) (t1 := t1) (by omega) (by omega)) mm_X2_isOf wd_517 rfl (hG _ (by omega)) (tw_hp (tw_hI (i := 1) (by omega))).2.2.1 rfl (by decide) rfl (Nat.le_of_ble_eq_true rfl) dX6_indexFor_20 ?_
      rintro _ _ ⟨rfl, rfl⟩
      show TW G X S [(4, .int (nI 1)), (3, .int (nI 0)), (0, .ref (tw_ad G 19)), (1, .int (nI z1)), (2, .int (nI t1))] 23 [.int (bI (isOfB (c 1) z1 t1))]
      refine tb_if_eq C dX6_indexFor_23 (tgt := 29) (by decide) (fun c8 => ?_) (fun c8 => ?_)
      · skip
        refine tw_aload_n C dX6_indexFor_29 2 rfl ?_
        refine tw_getR (q := 20) (k := 1) C dX6_indexFor_30 fc_X6 sh_19 (hG 19 (by decide)) rfl (by decide) wd_95 ?_
        refine tw_iload C dX6_indexFor_33 0 rfl ?_
        refine tw_aald5 C dX6_indexFor_35 sn_20 sa_20 (hG 20 (by decide)) (by omega) (by decide) ?_
        refine tw_callV (As := []) (rest := []) C N (c_X2_isThere hG (S := S) (tw_hI (i := 1) (by omega)) (hS 1 (by omega)).1 (hS 1 (by omega)).2 ) mm_X2_isThere wd_523 rfl (hG _ (by omega)) (tw_hp (tw_hI (i := 1) (by omega))).2.2.1 rfl (by decide) rfl (Nat.le_of_ble_eq_true rfl) dX6_indexFor_36 ?_
        rintro _ _ ⟨rfl, rfl⟩
        show TW G X S [(4, .int (nI 1)), (3, .int (nI 0)), (0, .ref (tw_ad G 19)), (1, .int (nI z1)), (2, .int (nI t1))] 39 [.int (bI (hTh (c 1)))]
        refine tb_if_ne C dX6_indexFor_39 (tgt := 45) (by decide) (fun c10 => ?_) (fun c10 => ?_)
        · skip
          refine tw_iinc (k := 0) (v := nI (1 + 1)) (L' := [(4, .int (nI (1 + 1))), (3, .int (nI 0)), (0, .ref (tw_ad G 19)), (1, .int (nI z1)), (2, .int (nI t1))]) C N dX6_indexFor_45 rfl (tn_inc1 _) (by decide) rfl ?_
          refine tw_goto C dX6_indexFor_48 (tgt := 5) (by decide) ?_
          show TW G X S [(4, .int (nI 2)), (3, .int (nI 0)), (0, .ref (tw_ad G 19)), (1, .int (nI z1)), (2, .int (nI t1))] 5 []
          refine tw_iload C dX6_indexFor_5 0 rfl ?_
          refine tw_iconst C dX6_indexFor_7 (v := nI 3) (by decide) ?_
          refine tn_icmp_ge C dX6_indexFor_8 (tgt := 51) (by decide) (by omega) (by omega) (fun c11 => ?_) (fun c11 => ?_)
          · exact absurd c11 (by decide)
          refine tw_aload_n C dX6_indexFor_11 2 rfl ?_
          refine tw_getR (q := 20) (k := 1) C dX6_indexFor_12 fc_X6 sh_19 (hG 19 (by decide)) rfl (by decide) wd_95 ?_
          refine tw_iload C dX6_indexFor_15 0 rfl ?_
          refine tw_aald5 C dX6_indexFor_17 sn_20 sa_20 (hG 20 (by decide)) (by omega) (by decide) ?_
          refine tw_iload_n C dX6_indexFor_18 3 rfl ?_
          refine tw_iload_n C dX6_indexFor_19 4 rfl ?_
          refine tw_callV (As := [.int (nI z1), .int (nI t1)]) (rest := []) C N (c_X2_isOf hG (S := S) (tw_hI (i := 2) (by omega)) (hS 2 (by omega)).1 (hS 2 (by omega)).2 (z1 := z1) (t1 := t1) (by omega) (by omega)) mm_X2_isOf wd_517 rfl (hG _ (by omega)) (tw_hp (tw_hI (i := 2) (by omega))).2.2.1 rfl (by decide) rfl (Nat.le_of_ble_eq_true rfl) dX6_indexFor_20 ?_
          rintro _ _ ⟨rfl, rfl⟩
          show TW G X S [(4, .int (nI 2)), (3, .int (nI 0)), (0, .ref (tw_ad G 19)), (1, .int (nI z1)), (2, .int (nI t1))] 23 [.int (bI (isOfB (c 2) z1 t1))]
          refine tb_if_eq C dX6_indexFor_23 (tgt := 29) (by decide) (fun c13 => ?_) (fun c13 => ?_)
          · skip
            refine tw_aload_n C dX6_indexFor_29 2 rfl ?_
            refine tw_getR (q := 20) (k := 1) C dX6_indexFor_30 fc_X6 sh_19 (hG 19 (by decide)) rfl (by decide) wd_95 ?_
            refine tw_iload C dX6_indexFor_33 0 rfl ?_
            refine tw_aald5 C dX6_indexFor_35 sn_20 sa_20 (hG 20 (by decide)) (by omega) (by decide) ?_
            refine tw_callV (As := []) (rest := []) C N (c_X2_isThere hG (S := S) (tw_hI (i := 2) (by omega)) (hS 2 (by omega)).1 (hS 2 (by omega)).2 ) mm_X2_isThere wd_523 rfl (hG _ (by omega)) (tw_hp (tw_hI (i := 2) (by omega))).2.2.1 rfl (by decide) rfl (Nat.le_of_ble_eq_true rfl) dX6_indexFor_36 ?_
            rintro _ _ ⟨rfl, rfl⟩
            show TW G X S [(4, .int (nI 2)), (3, .int (nI 0)), (0, .ref (tw_ad G 19)), (1, .int (nI z1)), (2, .int (nI t1))] 39 [.int (bI (hTh (c 2)))]
            refine tb_if_ne C dX6_indexFor_39 (tgt := 45) (by decide) (fun c15 => ?_) (fun c15 => ?_)
            · skip
              refine tw_iinc (k := 0) (v := nI (2 + 1)) (L' := [(4, .int (nI (2 + 1))), (3, .int (nI 0)), (0, .ref (tw_ad G 19)), (1, .int (nI z1)), (2, .int (nI t1))]) C N dX6_indexFor_45 rfl (tn_inc1 _) (by decide) rfl ?_
              refine tw_goto C dX6_indexFor_48 (tgt := 5) (by decide) ?_
              show TW G X S [(4, .int (nI 3)), (3, .int (nI 0)), (0, .ref (tw_ad G 19)), (1, .int (nI z1)), (2, .int (nI t1))] 5 []
              refine tw_iload C dX6_indexFor_5 0 rfl ?_
              refine tw_iconst C dX6_indexFor_7 (v := nI 3) (by decide) ?_
              refine tn_icmp_ge C dX6_indexFor_8 (tgt := 51) (by decide) (by omega) (by omega) (fun c16 => ?_) (fun c16 => ?_)
              · skip
                refine tw_iload_n C dX6_indexFor_51 1 rfl ?_
                exact tw_ireturn C Q dX6_indexFor_52 rfl rfl rfl ⟨by simp [idxH, *], rfl⟩
              · exact absurd c16 (by decide)
            · skip
              refine tw_iload C dX6_indexFor_42 0 rfl ?_
              refine tw_istore_n (L' := [(3, .int (nI 2)), (4, .int (nI 2)), (0, .ref (tw_ad G 19)), (1, .int (nI z1)), (2, .int (nI t1))]) C N dX6_indexFor_44 rfl (by decide) rfl ?_
              refine tw_iinc (k := 1) (v := nI (2 + 1)) (L' := [(4, .int (nI (2 + 1))), (3, .int (nI 2)), (0, .ref (tw_ad G 19)), (1, .int (nI z1)), (2, .int (nI t1))]) C N dX6_indexFor_45 rfl (tn_inc1 _) (by decide) rfl ?_
              refine tw_goto C dX6_indexFor_48 (tgt := 5) (by decide) ?_
              show TW G X S [(4, .int (nI 3)), (3, .int (nI 2)), (0, .ref (tw_ad G 19)), (1, .int (nI z1)), (2, .int (nI t1))] 5 []
              refine tw_iload C dX6_indexFor_5 0 rfl ?_
              refine tw_iconst C dX6_indexFor_7 (v := nI 3) (by decide) ?_
              refine tn_icmp_ge C dX6_indexFor_8 (tgt := 51) (by decide) (by omega) (by omega) (fun c17 => ?_) (fun c17 => ?_)
              · skip
                refine tw_iload_n C dX6_indexFor_51 1 rfl ?_
                exact tw_ireturn C Q dX6_indexFor_52 rfl rfl rfl ⟨by simp [idxH, *], rfl⟩
              · exact absurd c17 (by decide)
          · skip
            refine tw_iload C dX6_indexFor_26 0 rfl ?_
            exact tw_ireturn C Q dX6_indexFor_28 rfl rfl rfl ⟨by simp [idxH, *], rfl⟩
        · skip
          refine tw_iload C dX6_indexFor_42 0 rfl ?_
          refine tw_istore_n (L' := [(3, .int (nI 1)), (4, .int (nI 1)), (0, .ref (tw_ad G 19)), (1, .int (nI z1)), (2, .int (nI t1))]) C N dX6_indexFor_44 rfl (by decide) rfl ?_
          refine tw_iinc (k := 1) (v := nI (1 + 1)) (L' := [(4, .int (nI (1 + 1))), (3, .int (nI 1)), (0, .ref (tw_ad G 19)), (1, .int (nI z1)), (2, .int (nI t1))]) C N dX6_indexFor_45 rfl (tn_inc1 _) (by decide) rfl ?_
          refine tw_goto C dX6_indexFor_48 (tgt := 5) (by decide) ?_
          show TW G X S [(4, .int (nI 2)), (3, .int (nI 1)), (0, .ref (tw_ad G 19)), (1, .int (nI z1)), (2, .int (nI t1))] 5 []
          refine tw_iload C dX6_indexFor_5 0 rfl ?_
          refine tw_iconst C dX6_indexFor_7 (v := nI 3) (by decide) ?_
          refine tn_icmp_ge C dX6_indexFor_8 (tgt := 51) (by decide) (by omega) (by omega) (fun c18 => ?_) (fun c18 => ?_)
          · exact absurd c18 (by decide)
          refine tw_aload_n C dX6_indexFor_11 2 rfl ?_
          refine tw_getR (q := 20) (k := 1) C dX6_indexFor_12 fc_X6 sh_19 (hG 19 (by decide)) rfl (by decide) wd_95 ?_
          refine tw_iload C dX6_indexFor_15 0 rfl ?_
          refine tw_aald5 C dX6_indexFor_17 sn_20 sa_20 (hG 20 (by decide)) (by omega) (by decide) ?_
          refine tw_iload_n C dX6_indexFor_18 3 rfl ?_
          refine tw_iload_n C dX6_indexFor_19 4 rfl ?_
          refine tw_callV (As := [.int (nI z1), .int (nI t1)]) (rest := []) C N (c_X2_isOf hG (S := S) (tw_hI (i := 2) (by omega)) (hS 2 (by omega)).1 (hS 2 (by omega)).2 (z1 := z1) (t1 := t1) (by omega) (by omega)) mm_X2_isOf wd_517 rfl (hG _ (by omega)) (tw_hp (tw_hI (i := 2) (by omega))).2.2.1 rfl (by decide) rfl (Nat.le_of_ble_eq_true rfl) dX6_indexFor_20 ?_
          rintro _ _ ⟨rfl, rfl⟩
          show TW G X S [(4, .int (nI 2)), (3, .int (nI 1)), (0, .ref (tw_ad G 19)), (1, .int (nI z1)), (2, .int (nI t1))] 23 [.int (bI (isOfB (c 2) z1 t1))]
          refine tb_if_eq C dX6_indexFor_23 (tgt := 29) (by decide) (fun c20 => ?_) (fun c20 => ?_)
          · skip
            refine tw_aload_n C dX6_indexFor_29 2 rfl ?_
            refine tw_getR (q := 20) (k := 1) C dX6_indexFor_30 fc_X6 sh_19 (hG 19 (by decide)) rfl (by decide) wd_95 ?_
            refine tw_iload C dX6_indexFor_33 0 rfl ?_
            refine tw_aald5 C dX6_indexFor_35 sn_20 sa_20 (hG 20 (by decide)) (by omega) (by decide) ?_
            refine tw_callV (As := []) (rest := []) C N (c_X2_isThere hG (S := S) (tw_hI (i := 2) (by omega)) (hS 2 (by omega)).1 (hS 2 (by omega)).2 ) mm_X2_isThere wd_523 rfl (hG _ (by omega)) (tw_hp (tw_hI (i := 2) (by omega))).2.2.1 rfl (by decide) rfl (Nat.le_of_ble_eq_true rfl) dX6_indexFor_36 ?_
            rintro _ _ ⟨rfl, rfl⟩
            show TW G X S [(4, .int (nI 2)), (3, .int (nI 1)), (0, .ref (tw_ad G 19)), (1, .int (nI z1)), (2, .int (nI t1))] 39 [.int (bI (hTh (c 2)))]
            refine tb_if_ne C dX6_indexFor_39 (tgt := 45) (by decide) (fun c22 => ?_) (fun c22 => ?_)
            · skip
              refine tw_iinc (k := 0) (v := nI (2 + 1)) (L' := [(4, .int (nI (2 + 1))), (3, .int (nI 1)), (0, .ref (tw_ad G 19)), (1, .int (nI z1)), (2, .int (nI t1))]) C N dX6_indexFor_45 rfl (tn_inc1 _) (by decide) rfl ?_
              refine tw_goto C dX6_indexFor_48 (tgt := 5) (by decide) ?_
              show TW G X S [(4, .int (nI 3)), (3, .int (nI 1)), (0, .ref (tw_ad G 19)), (1, .int (nI z1)), (2, .int (nI t1))] 5 []
              refine tw_iload C dX6_indexFor_5 0 rfl ?_
              refine tw_iconst C dX6_indexFor_7 (v := nI 3) (by decide) ?_
              refine tn_icmp_ge C dX6_indexFor_8 (tgt := 51) (by decide) (by omega) (by omega) (fun c23 => ?_) (fun c23 => ?_)
              · skip
                refine tw_iload_n C dX6_indexFor_51 1 rfl ?_
                exact tw_ireturn C Q dX6_indexFor_52 rfl rfl rfl ⟨by simp [idxH, *], rfl⟩
              · exact absurd c23 (by decide)
            · skip
              refine tw_iload C dX6_indexFor_42 0 rfl ?_
              refine tw_istore_n (L' := [(3, .int (nI 2)), (4, .int (nI 2)), (0, .ref (tw_ad G 19)), (1, .int (nI z1)), (2, .int (nI t1))]) C N dX6_indexFor_44 rfl (by decide) rfl ?_
              refine tw_iinc (k := 1) (v := nI (2 + 1)) (L' := [(4, .int (nI (2 + 1))), (3, .int (nI 2)), (0, .ref (tw_ad G 19)), (1, .int (nI z1)), (2, .int (nI t1))]) C N dX6_indexFor_45 rfl (tn_inc1 _) (by decide) rfl ?_
              refine tw_goto C dX6_indexFor_48 (tgt := 5) (by decide) ?_
              show TW G X S [(4, .int (nI 3)), (3, .int (nI 2)), (0, .ref (tw_ad G 19)), (1, .int (nI z1)), (2, .int (nI t1))] 5 []
              refine tw_iload C dX6_indexFor_5 0 rfl ?_
              refine tw_iconst C dX6_indexFor_7 (v := nI 3) (by decide) ?_
              refine tn_icmp_ge C dX6_indexFor_8 (tgt := 51) (by decide) (by omega) (by omega) (fun c24 => ?_) (fun c24 => ?_)
              · skip
                refine tw_iload_n C dX6_indexFor_51 1 rfl ?_
                exact tw_ireturn C Q dX6_indexFor_52 rfl rfl rfl ⟨by simp [idxH, *], rfl⟩
              · exact absurd c24 (by decide)
          · skip
            refine tw_iload C dX6_indexFor_26 0 rfl ?_
            exact tw_ireturn C Q dX6_indexFor_28 rfl rfl rfl ⟨by simp [idxH, *], rfl⟩
      · skip
        refine tw_iload C dX6_indexFor_26 0 rfl ?_
        exact tw_ireturn C Q dX6_indexFor_28 rfl rfl rfl ⟨by simp [idxH, *], rfl⟩
    · skip
      refine tw_iload C dX6_indexFor_42 0 rfl ?_
      refine tw_istore_n (L' := [(3, .int (nI 0)), (4, .int (nI 0)), (0, .ref (tw_ad G 19)), (1, .int (nI z1)), (2, .int (nI t1))]) C N dX6_indexFor_44 rfl (by decide) rfl ?_
      refine tw_iinc (k := 1) (v := nI (0 + 1)) (L' := [(4, .int (nI (0 + 1))), (3, .int (nI 0)), (0, .ref (tw_ad G 19)), (1, .int (nI z1)), (2, .int (nI t1))]) C N dX6_indexFor_45 rfl (tn_inc1 _) (by decide) rfl ?_
      refine tw_goto C dX6_indexFor_48 (tgt := 5) (by decide) ?_
      show TW G X S [(4, .int (nI 1)), (3, .int (nI 0)), (0, .ref (tw_ad G 19)), (1, .int (nI z1)), (2, .int (nI t1))] 5 []
      refine tw_iload C dX6_indexFor_5 0 rfl ?_
      refine tw_iconst C dX6_indexFor_7 (v := nI 3) (by decide) ?_
      refine tn_icmp_ge C dX6_indexFor_8 (tgt := 51) (by decide) (by omega) (by omega) (fun c25 => ?_) (fun c25 => ?_)
      · exact absurd c25 (by decide)
      refine tw_aload_n C dX6_indexFor_11 2 rfl ?_
      refine tw_getR (q := 20) (k := 1) C dX6_indexFor_12 fc_X6 sh_19 (hG 19 (by decide)) rfl (by decide) wd_95 ?_
      refine tw_iload C dX6_indexFor_15 0 rfl ?_
      refine tw_aald5 C dX6_indexFor_17 sn_20 sa_20 (hG 20 (by decide)) (by omega) (by decide) ?_
      refine tw_iload_n C dX6_indexFor_18 3 rfl ?_
      refine tw_iload_n C dX6_indexFor_19 4 rfl ?_
      refine tw_callV (As := [.int (nI z1), .int (nI t1)]) (rest := []) C N (c_X2_isOf hG (S := S) (tw_hI (i := 1) (by omega)) (hS 1 (by omega)).1 (hS 1 (by omega)).2 (z1 := z1) (t1 := t1) (by omega) (by omega)) mm_X2_isOf wd_517 rfl (hG _ (by omega)) (tw_hp (tw_hI (i := 1) (by omega))).2.2.1 rfl (by decide) rfl (Nat.le_of_ble_eq_true rfl) dX6_indexFor_20 ?_
      rintro _ _ ⟨rfl, rfl⟩
      show TW G X S [(4, .int (nI 1)), (3, .int (nI 0)), (0, .ref (tw_ad G 19)), (1, .int (nI z1)), (2, .int (nI t1))] 23 [.int (bI (isOfB (c 1) z1 t1))]
      refine tb_if_eq C dX6_indexFor_23 (tgt := 29) (by decide) (fun c27 => ?_) (fun c27 => ?_)
      · skip
        refine tw_aload_n C dX6_indexFor_29 2 rfl ?_
        refine tw_getR (q := 20) (k := 1) C dX6_indexFor_30 fc_X6 sh_19 (hG 19 (by decide)) rfl (by decide) wd_95 ?_
        refine tw_iload C dX6_indexFor_33 0 rfl ?_
        refine tw_aald5 C dX6_indexFor_35 sn_20 sa_20 (hG 20 (by decide)) (by omega) (by decide) ?_
        refine tw_callV (As := []) (rest := []) C N (c_X2_isThere hG (S := S) (tw_hI (i := 1) (by omega)) (hS 1 (by omega)).1 (hS 1 (by omega)).2 ) mm_X2_isThere wd_523 rfl (hG _ (by omega)) (tw_hp (tw_hI (i := 1) (by omega))).2.2.1 rfl (by decide) rfl (Nat.le_of_ble_eq_true rfl) dX6_indexFor_36 ?_
        rintro _ _ ⟨rfl, rfl⟩
        show TW G X S [(4, .int (nI 1)), (3, .int (nI 0)), (0, .ref (tw_ad G 19)), (1, .int (nI z1)), (2, .int (nI t1))] 39 [.int (bI (hTh (c 1)))]
        refine tb_if_ne C dX6_indexFor_39 (tgt := 45) (by decide) (fun c29 => ?_) (fun c29 => ?_)
        · skip
          refine tw_iinc (k := 0) (v := nI (1 + 1)) (L' := [(4, .int (nI (1 + 1))), (3, .int (nI 0)), (0, .ref (tw_ad G 19)), (1, .int (nI z1)), (2, .int (nI t1))]) C N dX6_indexFor_45 rfl (tn_inc1 _) (by decide) rfl ?_
          refine tw_goto C dX6_indexFor_48 (tgt := 5) (by decide) ?_
          show TW G X S [(4, .int (nI 2)), (3, .int (nI 0)), (0, .ref (tw_ad G 19)), (1, .int (nI z1)), (2, .int (nI t1))] 5 []
          refine tw_iload C dX6_indexFor_5 0 rfl ?_
          refine tw_iconst C dX6_indexFor_7 (v := nI 3) (by decide) ?_
          refine tn_icmp_ge C dX6_indexFor_8 (tgt := 51) (by decide) (by omega) (by omega) (fun c30 => ?_) (fun c30 => ?_)
          · exact absurd c30 (by decide)
          refine tw_aload_n C dX6_indexFor_11 2 rfl ?_
          refine tw_getR (q := 20) (k := 1) C dX6_indexFor_12 fc_X6 sh_19 (hG 19 (by decide)) rfl (by decide) wd_95 ?_
          refine tw_iload C dX6_indexFor_15 0 rfl ?_
          refine tw_aald5 C dX6_indexFor_17 sn_20 sa_20 (hG 20 (by decide)) (by omega) (by decide) ?_
          refine tw_iload_n C dX6_indexFor_18 3 rfl ?_
          refine tw_iload_n C dX6_indexFor_19 4 rfl ?_
          refine tw_callV (As := [.int (nI z1), .int (nI t1)]) (rest := []) C N (c_X2_isOf hG (S := S) (tw_hI (i := 2) (by omega)) (hS 2 (by omega)).1 (hS 2 (by omega)).2 (z1 := z1) (t1 := t1) (by omega) (by omega)) mm_X2_isOf wd_517 rfl (hG _ (by omega)) (tw_hp (tw_hI (i := 2) (by omega))).2.2.1 rfl (by decide) rfl (Nat.le_of_ble_eq_true rfl) dX6_indexFor_20 ?_
          rintro _ _ ⟨rfl, rfl⟩
          show TW G X S [(4, .int (nI 2)), (3, .int (nI 0)), (0, .ref (tw_ad G 19)), (1, .int (nI z1)), (2, .int (nI t1))] 23 [.int (bI (isOfB (c 2) z1 t1))]
          refine tb_if_eq C dX6_indexFor_23 (tgt := 29) (by decide) (fun c32 => ?_) (fun c32 => ?_)
          · skip
            refine tw_aload_n C dX6_indexFor_29 2 rfl ?_
            refine tw_getR (q := 20) (k := 1) C dX6_indexFor_30 fc_X6 sh_19 (hG 19 (by decide)) rfl (by decide) wd_95 ?_
            refine tw_iload C dX6_indexFor_33 0 rfl ?_
            refine tw_aald5 C dX6_indexFor_35 sn_20 sa_20 (hG 20 (by decide)) (by omega) (by decide) ?_
            refine tw_callV (As := []) (rest := []) C N (c_X2_isThere hG (S := S) (tw_hI (i := 2) (by omega)) (hS 2 (by omega)).1 (hS 2 (by omega)).2 ) mm_X2_isThere wd_523 rfl (hG _ (by omega)) (tw_hp (tw_hI (i := 2) (by omega))).2.2.1 rfl (by decide) rfl (Nat.le_of_ble_eq_true rfl) dX6_indexFor_36 ?_
            rintro _ _ ⟨rfl, rfl⟩
            show TW G X S [(4, .int (nI 2)), (3, .int (nI 0)), (0, .ref (tw_ad G 19)), (1, .int (nI z1)), (2, .int (nI t1))] 39 [.int (bI (hTh (c 2)))]
            refine tb_if_ne C dX6_indexFor_39 (tgt := 45) (by decide) (fun c34 => ?_) (fun c34 => ?_)
            · skip
              refine tw_iinc (k := 0) (v := nI (2 + 1)) (L' := [(4, .int (nI (2 + 1))), (3, .int (nI 0)), (0, .ref (tw_ad G 19)), (1, .int (nI z1)), (2, .int (nI t1))]) C N dX6_indexFor_45 rfl (tn_inc1 _) (by decide) rfl ?_
              refine tw_goto C dX6_indexFor_48 (tgt := 5) (by decide) ?_
              show TW G X S [(4, .int (nI 3)), (3, .int (nI 0)), (0, .ref (tw_ad G 19)), (1, .int (nI z1)), (2, .int (nI t1))] 5 []
              refine tw_iload C dX6_indexFor_5 0 rfl ?_
              refine tw_iconst C dX6_indexFor_7 (v := nI 3) (by decide) ?_
              refine tn_icmp_ge C dX6_indexFor_8 (tgt := 51) (by decide) (by omega) (by omega) (fun c35 => ?_) (fun c35 => ?_)
              · skip
                refine tw_iload_n C dX6_indexFor_51 1 rfl ?_
                exact tw_ireturn C Q dX6_indexFor_52 rfl rfl rfl ⟨by simp [idxH, *], rfl⟩
              · exact absurd c35 (by decide)
            · skip
              refine tw_iload C dX6_indexFor_42 0 rfl ?_
              refine tw_istore_n (L' := [(3, .int (nI 2)), (4, .int (nI 2)), (0, .ref (tw_ad G 19)), (1, .int (nI z1)), (2, .int (nI t1))]) C N dX6_indexFor_44 rfl (by decide) rfl ?_
              refine tw_iinc (k := 1) (v := nI (2 + 1)) (L' := [(4, .int (nI (2 + 1))), (3, .int (nI 2)), (0, .ref (tw_ad G 19)), (1, .int (nI z1)), (2, .int (nI t1))]) C N dX6_indexFor_45 rfl (tn_inc1 _) (by decide) rfl ?_
              refine tw_goto C dX6_indexFor_48 (tgt := 5) (by decide) ?_
              show TW G X S [(4, .int (nI 3)), (3, .int (nI 2)), (0, .ref (tw_ad G 19)), (1, .int (nI z1)), (2, .int (nI t1))] 5 []
              refine tw_iload C dX6_indexFor_5 0 rfl ?_
              refine tw_iconst C dX6_indexFor_7 (v := nI 3) (by decide) ?_
              refine tn_icmp_ge C dX6_indexFor_8 (tgt := 51) (by decide) (by omega) (by omega) (fun c36 => ?_) (fun c36 => ?_)
              · skip
                refine tw_iload_n C dX6_indexFor_51 1 rfl ?_
                exact tw_ireturn C Q dX6_indexFor_52 rfl rfl rfl ⟨by simp [idxH, *], rfl⟩
              · exact absurd c36 (by decide)
          · skip
            refine tw_iload C dX6_indexFor_26 0 rfl ?_
            exact tw_ireturn C Q dX6_indexFor_28 rfl rfl rfl ⟨by simp [idxH, *], rfl⟩
        · skip
          refine tw_iload C dX6_indexFor_42 0 rfl ?_
          refine tw_istore_n (L' := [(3, .int (nI 1)), (4, .int (nI 1)), (0, .ref (tw_ad G 19)), (1, .int (nI z1)), (2, .int (nI t1))]) C N dX6_indexFor_44 rfl (by decide) rfl ?_
          refine tw_iinc (k := 1) (v := nI (1 + 1)) (L' := [(4, .int (nI (1 + 1))), (3, .int (nI 1)), (0, .ref (tw_ad G 19)), (1, .int (nI z1)), (2, .int (nI t1))]) C N dX6_indexFor_45 rfl (tn_inc1 _) (by decide) rfl ?_
          refine tw_goto C dX6_indexFor_48 (tgt := 5) (by decide) ?_
          show TW G X S [(4, .int (nI 2)), (3, .int (nI 1)), (0, .ref (tw_ad G 19)), (1, .int (nI z1)), (2, .int (nI t1))] 5 []
          refine tw_iload C dX6_indexFor_5 0 rfl ?_
          refine tw_iconst C dX6_indexFor_7 (v := nI 3) (by decide) ?_
          refine tn_icmp_ge C dX6_indexFor_8 (tgt := 51) (by decide) (by omega) (by omega) (fun c37 => ?_) (fun c37 => ?_)
          · exact absurd c37 (by decide)
          refine tw_aload_n C dX6_indexFor_11 2 rfl ?_
          refine tw_getR (q := 20) (k := 1) C dX6_indexFor_12 fc_X6 sh_19 (hG 19 (by decide)) rfl (by decide) wd_95 ?_
          refine tw_iload C dX6_indexFor_15 0 rfl ?_
          refine tw_aald5 C dX6_indexFor_17 sn_20 sa_20 (hG 20 (by decide)) (by omega) (by decide) ?_
          refine tw_iload_n C dX6_indexFor_18 3 rfl ?_
          refine tw_iload_n C dX6_indexFor_19 4 rfl ?_
          refine tw_callV (As := [.int (nI z1), .int (nI t1)]) (rest := []) C N (c_X2_isOf hG (S := S) (tw_hI (i := 2) (by omega)) (hS 2 (by omega)).1 (hS 2 (by omega)).2 (z1 := z1) (t1 := t1) (by omega) (by omega)) mm_X2_isOf wd_517 rfl (hG _ (by omega)) (tw_hp (tw_hI (i := 2) (by omega))).2.2.1 rfl (by decide) rfl (Nat.le_of_ble_eq_true rfl) dX6_indexFor_20 ?_
          rintro _ _ ⟨rfl, rfl⟩
          show TW G X S [(4, .int (nI 2)), (3, .int (nI 1)), (0, .ref (tw_ad G 19)), (1, .int (nI z1)), (2, .int (nI t1))] 23 [.int (bI (isOfB (c 2) z1 t1))]
          refine tb_if_eq C dX6_indexFor_23 (tgt := 29) (by decide) (fun c39 => ?_) (fun c39 => ?_)
          · skip
            refine tw_aload_n C dX6_indexFor_29 2 rfl ?_
            refine tw_getR (q := 20) (k := 1) C dX6_indexFor_30 fc_X6 sh_19 (hG 19 (by decide)) rfl (by decide) wd_95 ?_
            refine tw_iload C dX6_indexFor_33 0 rfl ?_
            refine tw_aald5 C dX6_indexFor_35 sn_20 sa_20 (hG 20 (by decide)) (by omega) (by decide) ?_
            refine tw_callV (As := []) (rest := []) C N (c_X2_isThere hG (S := S) (tw_hI (i := 2) (by omega)) (hS 2 (by omega)).1 (hS 2 (by omega)).2 ) mm_X2_isThere wd_523 rfl (hG _ (by omega)) (tw_hp (tw_hI (i := 2) (by omega))).2.2.1 rfl (by decide) rfl (Nat.le_of_ble_eq_true rfl) dX6_indexFor_36 ?_
            rintro _ _ ⟨rfl, rfl⟩
            show TW G X S [(4, .int (nI 2)), (3, .int (nI 1)), (0, .ref (tw_ad G 19)), (1, .int (nI z1)), (2, .int (nI t1))] 39 [.int (bI (hTh (c 2)))]
            refine tb_if_ne C dX6_indexFor_39 (tgt := 45) (by decide) (fun c41 => ?_) (fun c41 => ?_)
            · skip
              refine tw_iinc (k := 0) (v := nI (2 + 1)) (L' := [(4, .int (nI (2 + 1))), (3, .int (nI 1)), (0, .ref (tw_ad G 19)), (1, .int (nI z1)), (2, .int (nI t1))]) C N dX6_indexFor_45 rfl (tn_inc1 _) (by decide) rfl ?_
              refine tw_goto C dX6_indexFor_48 (tgt := 5) (by decide) ?_
              show TW G X S [(4, .int (nI 3)), (3, .int (nI 1)), (0, .ref (tw_ad G 19)), (1, .int (nI z1)), (2, .int (nI t1))] 5 []
              refine tw_iload C dX6_indexFor_5 0 rfl ?_
              refine tw_iconst C dX6_indexFor_7 (v := nI 3) (by decide) ?_
              refine tn_icmp_ge C dX6_indexFor_8 (tgt := 51) (by decide) (by omega) (by omega) (fun c42 => ?_) (fun c42 => ?_)
              · skip
                refine tw_iload_n C dX6_indexFor_51 1 rfl ?_
                exact tw_ireturn C Q dX6_indexFor_52 rfl rfl rfl ⟨by simp [idxH, *], rfl⟩
              · exact absurd c42 (by decide)
            · skip
              refine tw_iload C dX6_indexFor_42 0 rfl ?_
              refine tw_istore_n (L' := [(3, .int (nI 2)), (4, .int (nI 2)), (0, .ref (tw_ad G 19)), (1, .int (nI z1)), (2, .int (nI t1))]) C N dX6_indexFor_44 rfl (by decide) rfl ?_
              refine tw_iinc (k := 1) (v := nI (2 + 1)) (L' := [(4, .int (nI (2 + 1))), (3, .int (nI 2)), (0, .ref (tw_ad G 19)), (1, .int (nI z1)), (2, .int (nI t1))]) C N dX6_indexFor_45 rfl (tn_inc1 _) (by decide) rfl ?_
              refine tw_goto C dX6_indexFor_48 (tgt := 5) (by decide) ?_
              show TW G X S [(4, .int (nI 3)), (3, .int (nI 2)), (0, .ref (tw_ad G 19)), (1, .int (nI z1)), (2, .int (nI t1))] 5 []
              refine tw_iload C dX6_indexFor_5 0 rfl ?_
              refine tw_iconst C dX6_indexFor_7 (v := nI 3) (by decide) ?_
              refine tn_icmp_ge C dX6_indexFor_8 (tgt := 51) (by decide) (by omega) (by omega) (fun c43 => ?_) (fun c43 => ?_)
              · skip
                refine tw_iload_n C dX6_indexFor_51 1 rfl ?_
                exact tw_ireturn C Q dX6_indexFor_52 rfl rfl rfl ⟨by simp [idxH, *], rfl⟩
              · exact absurd c43 (by decide)
          · skip
            refine tw_iload C dX6_indexFor_26 0 rfl ?_
            exact tw_ireturn C Q dX6_indexFor_28 rfl rfl rfl ⟨by simp [idxH, *], rfl⟩
      · skip
        refine tw_iload C dX6_indexFor_26 0 rfl ?_
        exact tw_ireturn C Q dX6_indexFor_28 rfl rfl rfl ⟨by simp [idxH, *], rfl⟩
  · skip
    refine tw_iload C dX6_indexFor_26 0 rfl ?_
    exact tw_ireturn C Q dX6_indexFor_28 rfl rfl rfl ⟨by simp [idxH, *], rfl⟩
def zF (fs : List Nat) : Nat := nb fs 0 2 % 2048
def tF (fs : List Nat) : Nat := nb fs 2 2
theorem c_X6_zOf {G : tw_G} (hG : tw_cG G) {S : tw_S} {f : Nat} (hf : tw_isRow f = true) {fs : List Nat} (hfs : tw_R S f = fs) : tw_M G yX6_zOf cX6_zOf 1 (some .int) 2 46 [.ref (tw_ad G f)] S ri_I (fun v S' => v = nI (zF fs) ∧ S = S') := by
  refine tw_M.of (L := [(0, .ref (tw_ad G f))]) (by decide) (Nat.le_of_ble_eq_true rfl) rfl (fun X C N Q => ?_)
  have C : tw_C G X cX6_zOf RX6 := C
  refine tw_aload_n C dX6_zOf_0 0 rfl ?_
  refine tw_iconst C dX6_zOf_1 (v := nI 0) (by decide) ?_
  refine tw_iconst C dX6_zOf_2 (v := nI 2) (by decide) ?_
  refine tw_callV (As := [.int (nI 0), .int (nI 2)]) (rest := []) C N (e_X7_number hG (S := S) hf (xs := fs) hfs (f := 0) (i := 2) (by omega) (by omega)) mm_X7_number wd_491 rfl (hG _ (tw_row_lt hf).2) (tw_row_sh hf) rfl (by decide) rfl (Nat.le_of_ble_eq_true rfl) dX6_zOf_3 ?_
  rintro _ _ ⟨rfl, rfl⟩
  show TW G X S [(0, .ref (tw_ad G f))] 6 [.long (lN (nb fs 0 2))]
  refine tw_l2i C dX6_zOf_6 (v := nI (nb fs 0 2)) (lN_i32 _) ?_
  refine tw_sipush C dX6_zOf_7 (v := nI 2047) (by decide) ?_
  refine tw_iand C dX6_zOf_10 (v := nI ((nb fs 0 2) % 2048)) (nI_andm 11 (by decide)) ?_
  exact tw_ireturn C Q dX6_zOf_11 rfl rfl rfl ⟨rfl, rfl⟩
