/-! the class's heaps by place, the model's in order: the same -/
def cnt : List mP → Nat → Nat
  | [], _ => 0
  | x :: l, i => (if x.1 ≤ i ∧ i < x.1 + x.2.length then 1 else 0) + cnt l i
def cst : List mP → Nat → Nat
  | [], _ => 0
  | x :: l, j => (if x.1 = 8 * j then 1 else 0) + cst l j
def PR (f : Nat → Nat) (xs : List Nat) (z : Nat) (ps : List mP) : Prop := (∀ k, k < ps.length → (ps.getD k p0).1 % 8 = 0 ∧ 1 ≤ (ps.getD k p0).2.length ∧ (ps.getD k p0).1 + (ps.getD k p0).2.length ≤ z ∧ f ((ps.getD k p0).1 / 8) = (ps.getD k p0).2.length ∧ ∀ i, i < (ps.getD k p0).2.length → xs.getD ((ps.getD k p0).1 + i) 0 = (ps.getD k p0).2.getD i 0) ∧ (∀ j, f j ≠ 0 → ∃ k, k < ps.length ∧ (ps.getD k p0).1 = 8 * j) ∧ ∀ i, cnt ps i ≤ 1
def EQ (ck : Nat) (e : cH) (m : mE) : Prop := hTh e = true ∧ hZ e = m.1 ∧ hTg e = m.2.1 ∧ hTm e = m.2.2.1 ∧ hNp e = m.2.2.2.length ∧ hNb e = mSum m.2.2.2 ∧ (hXs e).length = m.1 ∧ (40 ≤ m.1 ∧ m.1 ≤ 600 ∧ m.2.1 < 65536 ∧ m.2.2.1 ≤ ck) ∧ PR (hLn e) (hXs e) m.1 m.2.2.2
def HR (ck : Nat) (c : Nat → cH) (hl : List mE) : Prop := ∃ pl : Nat → Nat, (∀ k, k < hl.length → pl k < 3) ∧ (∀ k k', k < hl.length → k' < hl.length → pl k = pl k' → k = k') ∧ (∀ k k', k < hl.length → k' < hl.length → (hl.getD k d0).1 = (hl.getD k' d0).1 → (hl.getD k d0).2.1 = (hl.getD k' d0).2.1 → k = k') ∧ (∀ k, k < hl.length → EQ ck (c (pl k)) (hl.getD k d0)) ∧ ∀ j, j < 3 → hTh (c j) = true → ∃ k, k < hl.length ∧ pl k = j
theorem sumN_cg {g g' : Nat → Nat} : ∀ {n : Nat}, (∀ i, i < n → g i = g' i) → sumN g n = sumN g' n
  | 0, _ => rfl
  | n + 1, h => by simp only [sumN]; rw [sumN_cg (fun i hi => h i (by omega)), h n (by omega)]
theorem sumN_add (g g' : Nat → Nat) : ∀ n, sumN (fun i => g i + g' i) n = sumN g n + sumN g' n
  | 0 => rfl
  | n + 1 => by simp only [sumN]; rw [sumN_add g g' n]; omega
theorem sumN_0 {g : Nat → Nat} : ∀ {n : Nat}, (∀ i, i < n → g i = 0) → sumN g n = 0
  | 0, _ => rfl
  | n + 1, h => by simp only [sumN]; rw [sumN_0 (fun i hi => h i (by omega)), h n (by omega)]
theorem sumN_1 {g : Nat → Nat} : ∀ {n : Nat}, (∀ i, i < n → g i ≤ 1) → sumN g n ≤ n
  | 0, _ => Nat.le_refl _
  | n + 1, h => by
    have h1 := sumN_1 (n := n) (fun i hi => h i (by omega))
    have h2 := h n (by omega)
    simp only [sumN]; omega
theorem sumN_all {g : Nat → Nat} : ∀ {n : Nat}, (∀ i, i < n → g i ≤ 1) → sumN g n = n → ∀ i, i < n → g i = 1
  | 0, _, _, i, hi => by omega
  | n + 1, h, e, i, hi => by
    have h1 := sumN_1 (n := n) (fun i hi => h i (by omega))
    have h2 := h n (by omega)
    simp only [sumN] at e
    by_cases hx : i = n
    · subst hx; omega
    · exact sumN_all (n := n) (fun i hi => h i (by omega)) (by omega) i (by omega)
theorem sumN_up {g g' : Nat → Nat} {j n : Nat} (hj : j < n) (h : ∀ i, i ≠ j → g i = g' i) : sumN g n + g' j = sumN g' n + g j := by
  induction n with
  | zero => omega
  | succ n ih =>
    simp only [sumN]
    by_cases hx : j = n
    · subst hx
      have := sumN_cg (g := g) (g' := g') (n := j) (fun i hi => h i (by omega))
      omega
    · have := ih (by omega)
      have := h n (by omega)
      omega
theorem sumN_in (a n : Nat) : ∀ z, sumN (fun i => if a ≤ i ∧ i < a + n then 1 else 0) z = min (z - a) n
  | 0 => by simp [sumN]
  | z + 1 => by
    simp only [sumN]
    rw [sumN_in a n z]
    split <;> omega
theorem sumN_at (a : Nat) (ha : a % 8 = 0) : ∀ n, sumN (fun j => if a = 8 * j then 1 else 0) n = if a < 8 * n then 1 else 0
  | 0 => by simp [sumN]
  | n + 1 => by
    simp only [sumN]
    rw [sumN_at a ha n]
    by_cases h1 : a < 8 * n
    · rw [if_pos h1, if_neg (by omega), if_pos (by omega)]
    · rw [if_neg h1]
      by_cases h2 : a = 8 * n
      · rw [if_pos h2, if_pos (by omega)]
      · rw [if_neg h2, if_neg (by omega)]
theorem cnt_sum {z : Nat} : ∀ {ps : List mP}, (∀ x ∈ ps, x.1 + x.2.length ≤ z) → sumN (cnt ps) z = mSum ps
  | [], _ => sumN_0 (fun _ _ => rfl)
  | x :: l, h => by
    have e : sumN (cnt (x :: l)) z = sumN (fun i => (if x.1 ≤ i ∧ i < x.1 + x.2.length then 1 else 0) + cnt l i) z := rfl
    rw [e, sumN_add, sumN_in, cnt_sum (fun y hy => h y (List.mem_cons_of_mem _ hy)), mSum]
    have := h x List.mem_cons_self
    omega
theorem cst_sum : ∀ {ps : List mP}, (∀ x ∈ ps, x.1 % 8 = 0 ∧ x.1 < 600) → sumN (cst ps) 75 = ps.length
  | [], _ => sumN_0 (fun _ _ => rfl)
  | x :: l, h => by
    have e : sumN (cst (x :: l)) 75 = sumN (fun j => (if x.1 = 8 * j then 1 else 0) + cst l j) 75 := rfl
    have h1 := h x List.mem_cons_self
    rw [e, sumN_add, sumN_at x.1 h1.1, cst_sum (fun y hy => h y (List.mem_cons_of_mem _ hy)), if_pos (by omega), List.length_cons]
    omega
theorem cst_le {j : Nat} : ∀ {ps : List mP}, (∀ x ∈ ps, 1 ≤ x.2.length) → cst ps j ≤ cnt ps (8 * j)
  | [], _ => Nat.le_refl _
  | x :: l, h => by
    have h1 := h x List.mem_cons_self
    have h2 := cst_le (j := j) (fun y hy => h y (List.mem_cons_of_mem _ hy))
    simp only [cst, cnt]
    by_cases h3 : x.1 = 8 * j
    · rw [if_pos h3, if_pos (by omega)]; omega
    · rw [if_neg h3]; omega
theorem cnt_app (ps : List mP) (x : mP) (i : Nat) : cnt (ps ++ [x]) i = cnt ps i + (if x.1 ≤ i ∧ i < x.1 + x.2.length then 1 else 0) := by
  induction ps with
  | nil => simp [cnt]
  | cons y l ih => simp only [List.cons_append, cnt, ih]; omega
theorem cnt_pos {i : Nat} : ∀ {ps : List mP}, 0 < cnt ps i → ∃ k, k < ps.length ∧ (ps.getD k p0).1 ≤ i ∧ i < (ps.getD k p0).1 + (ps.getD k p0).2.length
  | [], h => absurd h (by simp [cnt])
  | x :: l, h => by
    by_cases h1 : x.1 ≤ i ∧ i < x.1 + x.2.length
    · exact ⟨0, by simp, h1⟩
    · simp only [cnt, if_neg h1, Nat.zero_add] at h
      obtain ⟨k, h2, h3⟩ := cnt_pos h
      exact ⟨k + 1, by simp; omega, h3⟩
theorem mem_at {α : Type} {l : List α} {x : α} (h : x ∈ l) (d : α) : ∃ k, k < l.length ∧ l.getD k d = x := by
  obtain ⟨k, hk, e⟩ := List.getElem_of_mem h
  exact ⟨k, hk, by simp [List.getD_eq_getElem?_getD, List.getElem?_eq_getElem hk, e]⟩
theorem PR_all {f : Nat → Nat} {xs : List Nat} {z : Nat} {ps : List mP} (h : PR f xs z ps) : ∀ x ∈ ps, x.1 % 8 = 0 ∧ 1 ≤ x.2.length ∧ x.1 + x.2.length ≤ z := by
  intro x hx
  obtain ⟨k, hk, e⟩ := mem_at hx p0
  have := h.1 k hk
  rw [e] at this
  exact ⟨this.1, this.2.1, this.2.2.1⟩
theorem PR_sum {f : Nat → Nat} {xs : List Nat} {z : Nat} {ps : List mP} (h : PR f xs z ps) : mSum ps ≤ z := by
  rw [← cnt_sum (fun x hx => (PR_all h x hx).2.2)]
  exact sumN_1 (fun i _ => h.2.2 i)
theorem PR_len {f : Nat → Nat} {xs : List Nat} {z : Nat} {ps : List mP} (h : PR f xs z ps) (hz : z ≤ 600) : ps.length ≤ 75 := by
  rw [← cst_sum (fun x hx => by have := PR_all h x hx; omega)]
  exact sumN_1 (fun j _ => Nat.le_trans (cst_le (fun x hx => (PR_all h x hx).2.1)) (h.2.2 _))
theorem PR_CV {f : Nat → Nat} {xs : List Nat} {z : Nat} {ps : List mP} (h : PR f xs z ps) (hs : mSum ps = z) (hx : xs.length = z) : CV ps xs := by
  intro i hi
  have h1 := sumN_all (g := cnt ps) (n := z) (fun i _ => h.2.2 i) (by rw [cnt_sum (fun x hx => (PR_all h x hx).2.2)]; exact hs) i (by omega)
  obtain ⟨k, h2, h3, h4⟩ := cnt_pos (i := i) (ps := ps) (by omega)
  refine ⟨k, h2, h3, h4, ?_⟩
  rw [← (h.1 k h2).2.2.2.2 (i - (ps.getD k p0).1) (by omega), show (ps.getD k p0).1 + (i - (ps.getD k p0).1) = i by omega]
theorem PR_new {z : Nat} {xs : List Nat} : PR (fun _ => 0) xs z [] := ⟨fun k hk => absurd hk (by simp), fun j h => absurd rfl h, fun i => by simp [cnt]⟩
theorem getP {ps : List mP} {x : mP} {k : Nat} : (ps ++ [x]).getD k p0 = if k < ps.length then ps.getD k p0 else if k = ps.length then x else p0 := by
  by_cases h : k < ps.length
  · rw [if_pos h]; simp only [List.getD_eq_getElem?_getD, List.getElem?_append_left h]
  · rw [if_neg h]
    by_cases h2 : k = ps.length
    · subst h2; rw [if_pos rfl]; simp [List.getD_eq_getElem?_getD]
    · rw [if_neg h2, getD_out (by rw [List.length_append, List.length_singleton]; omega)]
theorem pcs_gD (xs : List Nat) (q : Nat) (ys : List Nat) (s : Nat) : ∀ k j, (q + k ≤ xs.length) → (pcs xs q ys s k).getD j 0 = if q ≤ j ∧ j < q + k then ys.getD (s + (j - q)) 0 % 256 else xs.getD j 0
  | 0, j, _ => by rw [if_neg (by omega)]; rfl
  | k + 1, j, h => by
    show ((pcs xs q ys s k).set (q + k) (ys.getD (s + k) 0 % 256)).getD j 0 = _
    by_cases hj : j = q + k
    · subst hj
      rw [getD_set_same (by rw [pcs_len]; omega), if_pos (by omega), show q + k - q = k by omega]
    · rw [getD_set_ne hj, pcs_gD xs q ys s k j (by omega)]
      by_cases h2 : q ≤ j ∧ j < q + k
      · rw [if_pos h2, if_pos (by omega)]
      · rw [if_neg h2, if_neg (by omega)]
/-- the part laid down: both sides -/
theorem PR_add {f : Nat → Nat} {xs : List Nat} {z q s : Nat} {ps : List mP} {ys : List Nat} (h : PR f xs z ps) (hx : xs.length = z) (hq : q % 8 = 0) (hn : 1 ≤ (ys.drop s).length) (hz : q + (ys.drop s).length ≤ z) (hb : ∀ x ∈ ys, x < 256) (hm : mMe q (ys.drop s).length ps = false) : PR (updN f (q / 8) (ys.length - s)) (pcs xs q ys s (ys.length - s)) z (ps ++ [(q, ys.drop s)]) := by
  have hl : (ys.drop s).length = ys.length - s := List.length_drop
  have no : ∀ k, k < ps.length → ¬ ((ps.getD k p0).1 < q + (ys.drop s).length ∧ q < (ps.getD k p0).1 + (ps.getD k p0).2.length) := fun k hk => of_decide_eq_false (any_no hk p0 hm)
  refine ⟨fun k hk => ?_, fun j hj => ?_, fun i => ?_⟩
  · rw [List.length_append, List.length_singleton] at hk
    rw [getP]
    by_cases h1 : k < ps.length
    · rw [if_pos h1]
      obtain ⟨g1, g2, g3, g4, g5⟩ := h.1 k h1
      have g6 := no k h1
      refine ⟨g1, g2, g3, ?_, fun i hi => ?_⟩
      · show (if (ps.getD k p0).1 / 8 = q / 8 then _ else _) = _
        rw [if_neg (by omega)]; exact g4
      · rw [pcs_gD xs q ys s _ _ (by omega), if_neg (by omega)]; exact g5 i hi
    · rw [if_neg h1, if_pos (by omega)]
      refine ⟨hq, hn, hz, ?_, fun i hi => ?_⟩
      · show (if q / 8 = q / 8 then ys.length - s else _) = (ys.drop s).length
        rw [if_pos rfl, hl]
      · have hi : i < (ys.drop s).length := hi
        show (pcs xs q ys s (ys.length - s)).getD (q + i) 0 = (ys.drop s).getD i 0
        rw [pcs_gD xs q ys s _ _ (by omega), if_pos (by omega), getD_drop, show q + i - q = i by omega, Nat.mod_eq_of_lt (gD_lt hb _)]
  · have hj : (if j = q / 8 then ys.length - s else f j) ≠ 0 := hj
    by_cases h1 : j = q / 8
    · refine ⟨ps.length, by rw [List.length_append]; exact Nat.lt_succ_self _, ?_⟩
      rw [getP, if_neg (Nat.lt_irrefl _), if_pos rfl]
      show q = 8 * j
      omega
    · rw [if_neg h1] at hj
      obtain ⟨k, h2, h3⟩ := h.2.1 j hj
      refine ⟨k, by rw [List.length_append]; omega, ?_⟩
      rw [getP, if_pos h2]; exact h3
  · rw [cnt_app]
    by_cases h1 : q ≤ i ∧ i < q + (ys.drop s).length
    · have h2 : cnt ps i = 0 := by
        rcases Nat.eq_zero_or_pos (cnt ps i) with h3 | h3
        · exact h3
        · obtain ⟨k, h4, h5, h6⟩ := cnt_pos h3
          have := no k h4
          omega
      rw [h2]; split <;> omega
    · rw [if_neg h1]; exact h.2.2 i
theorem PR_same {f : Nat → Nat} {xs : List Nat} {z q n : Nat} {ps : List mP} (h : PR f xs z ps) (hq : q % 8 = 0) (hn : 1 ≤ n) : mSm q n ps = decide (f (q / 8) = n) := by
  by_cases h1 : f (q / 8) = n
  · rw [decide_eq_true h1]
    obtain ⟨k, h2, h3⟩ := h.2.1 (q / 8) (by omega)
    have g := h.1 k h2
    have h4 : (ps.getD k p0).1 = q := by omega
    exact any_at h2 p0 (decide_eq_true ⟨h4, by rw [← g.2.2.2.1, h4]; exact h1⟩)
  · rw [decide_eq_false h1]
    cases hc : mSm q n ps with
    | false => rfl
    | true =>
      obtain ⟨x, hx, h2⟩ := List.any_eq_true.mp hc
      obtain ⟨h3, h4⟩ := of_decide_eq_true h2
      obtain ⟨k, hk, e⟩ := mem_at hx p0
      have g := (h.1 k hk).2.2.2.1
      rw [e, h3, h4] at g
      exact absurd g h1
theorem PR_hit {f : Nat → Nat} {xs : List Nat} {z q n : Nat} {ps : List mP} (h : PR f xs z ps) (hz : z ≤ 600) : hitB f q n = mMe q n ps := by
  cases hc : mMe q n ps with
  | true =>
    obtain ⟨x, hx, h2⟩ := List.any_eq_true.mp hc
    obtain ⟨h3, h4⟩ := of_decide_eq_true h2
    obtain ⟨k, hk, e⟩ := mem_at hx p0
    have g := h.1 k hk
    rw [e] at g
    refine List.any_eq_true.mpr ⟨x.1 / 8, List.mem_range.mpr (by omega), ?_⟩
    rw [g.2.2.2.1, decide_eq_true (show 0 < x.2.length by omega), decide_eq_true (show 8 * (x.1 / 8) < q + n by omega), decide_eq_true (show q < 8 * (x.1 / 8) + x.2.length by omega)]
    rfl
  | false =>
    cases hd : hitB f q n with
    | false => rfl
    | true =>
      obtain ⟨j, hj, h2⟩ := List.any_eq_true.mp hd
      rw [Bool.and_eq_true, Bool.and_eq_true, decide_eq_true_eq, decide_eq_true_eq, decide_eq_true_eq] at h2
      obtain ⟨k, hk, e⟩ := h.2.1 j (by omega)
      have g := (h.1 k hk).2.2.2.1
      have no := of_decide_eq_false (any_no hk p0 hc)
      rw [e, show 8 * j / 8 = j by omega] at g
      omega
