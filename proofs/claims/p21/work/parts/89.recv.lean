/-! the receiver: parts of one packet in any order, some twice, and one part of another packet between -/
theorem sumN_cg {g g' : Nat → Nat} : ∀ {n : Nat}, (∀ i, i < n → g i = g' i) → sumN g n = sumN g' n
  | 0, _ => rfl
  | n + 1, h => by simp only [sumN]; rw [sumN_cg (fun i hi => h i (by omega)), h n (by omega)]
theorem sumN_0 {g : Nat → Nat} : ∀ {n : Nat}, (∀ i, i < n → g i = 0) → sumN g n = 0
  | 0, _ => rfl
  | n + 1, h => by simp only [sumN]; rw [sumN_0 (fun i hi => h i (by omega)), h n (by omega)]
theorem sumN_1 {g : Nat → Nat} : ∀ {n : Nat}, (∀ i, i < n → g i ≤ 1) → sumN g n ≤ n
  | 0, _ => Nat.le_refl _
  | n + 1, h => by
    have h1 := sumN_1 (n := n) (fun i hi => h i (by omega))
    have h2 := h n (by omega)
    simp only [sumN]; omega
theorem sumN_up {g g' : Nat → Nat} {j n : Nat} (hj : j < n) (h : ∀ i, i ≠ j → g i = g' i) : sumN g n + g' j = sumN g' n + g j := by
  induction n with
  | zero => omega
  | succ n ih =>
    simp only [sumN]
    by_cases hx : j = n
    · subst hx
      have := sumN_cg (g := g) (g' := g') (n := j) (fun i hi => h i (by omega))
      omega
    · have := ih (by omega)
      have := h n (by omega)
      omega
theorem sumN_ite {h : Nat → Bool} {m : Nat → Nat} : ∀ {n : Nat}, (∀ k, k < n → 1 ≤ m k) → sumN (fun k => if h k = true then m k else 0) n ≤ sumN m n ∧ (sumN (fun k => if h k = true then m k else 0) n = sumN m n ↔ ∀ k, k < n → h k = true)
  | 0, _ => ⟨Nat.le_refl _, fun _ k hk => absurd hk (Nat.not_lt_zero _), fun _ => rfl⟩
  | n + 1, hm => by
    obtain ⟨i1, i2⟩ := sumN_ite (h := h) (m := m) (n := n) (fun k hk => hm k (by omega))
    have hmn := hm n (by omega)
    simp only [sumN]
    cases hh : h n with
    | true =>
      simp only [if_true]
      refine ⟨by omega, fun e k hk => ?_, fun a => ?_⟩
      · by_cases hkn : k = n
        · rw [hkn, hh]
        · exact i2.mp (by omega) k (by omega)
      · have := i2.mpr (fun k hk => a k (by omega)); omega
    | false =>
      simp only [Bool.false_eq_true, if_false]
      refine ⟨by omega, fun e => by omega, fun a => ?_⟩
      have := a n (by omega)
      rw [hh] at this; cases this
theorem getD_set_same {α : Type} {xs : List α} {k : Nat} (h : k < xs.length) (x d : α) : (xs.set k x).getD k d = x := by
  simp [List.getD_eq_getElem?_getD, List.getElem?_set_self h]
theorem getD_set_ne {α : Type} {xs : List α} {k j : Nat} (h : j ≠ k) (x d : α) : (xs.set k x).getD j d = xs.getD j d := by
  simp [List.getD_eq_getElem?_getD, List.getElem?_set_ne (Ne.symm h)]
theorem pcs_gD (xs : List Nat) (q : Nat) (ys : List Nat) (s : Nat) : ∀ k j, (q + k ≤ xs.length) → (pcs xs q ys s k).getD j 0 = if q ≤ j ∧ j < q + k then ys.getD (s + (j - q)) 0 % 256 else xs.getD j 0
  | 0, j, _ => by rw [if_neg (by omega)]; rfl
  | k + 1, j, h => by
    show ((pcs xs q ys s k).set (q + k) (ys.getD (s + k) 0 % 256)).getD j 0 = _
    by_cases hj : j = q + k
    · subst hj
      rw [getD_set_same (by rw [pcs_len]; omega), if_pos (by omega), show q + k - q = k by omega]
    · rw [getD_set_ne hj, pcs_gD xs q ys s k j (by omega)]
      by_cases h2 : q ≤ j ∧ j < q + k
      · rw [if_pos h2, if_pos (by omega)]
      · rw [if_neg h2, if_neg (by omega)]
theorem setH_same (c : Nat → cH) (i : Nat) (e : cH) : setH c i e i = e := if_pos rfl
theorem setH_ne {c : Nat → cH} {i j : Nat} {e : cH} (h : j ≠ i) : setH c i e j = c j := if_neg h
/-! the parts -/
def TI (z n : Nat) (q : Nat → Nat) (Y : Nat → List Nat) (s : Nat → Nat) : Prop := q 0 = 0 ∧ q n = z ∧ 40 ≤ z ∧ z ≤ 600 ∧ n ≤ 40 ∧ ∀ k, k < n → okP z (q k) ((Y k).length - s k) ∧ q k % 8 = 0 ∧ 1 ≤ (Y k).length - s k ∧ q (k + 1) = q k + ((Y k).length - s k)
def upH (h : Nat → Bool) (k : Nat) : Nat → Bool := fun j => if j = k then true else h j
theorem upH_s (h : Nat → Bool) (k : Nat) : upH h k k = true := if_pos rfl
theorem upH_n {h : Nat → Bool} {k j : Nat} (hn : j ≠ k) : upH h k j = h j := if_neg hn
section RC
variable {z n : Nat} {q : Nat → Nat} {Y : Nat → List Nat} {s : Nat → Nat}
theorem TI_mono (T : TI z n q Y s) {k : Nat} : ∀ d, k + 1 + d ≤ n → q (k + 1) ≤ q (k + 1 + d)
  | 0, _ => Nat.le_refl _
  | d + 1, h => by
    have h1 := TI_mono T (k := k) d (by omega)
    have h2 := (T.2.2.2.2.2 (k + 1 + d) (by omega)).2.2.2
    rw [show k + 1 + (d + 1) = k + 1 + d + 1 by omega]
    omega
theorem TI_lt (T : TI z n q Y s) {k j : Nat} (h : k < j) (hj : j ≤ n) : q k + ((Y k).length - s k) ≤ q j := by
  have h1 := TI_mono T (k := k) (j - (k + 1)) (by omega)
  have h2 := (T.2.2.2.2.2 k (by omega)).2.2.2
  rw [show k + 1 + (j - (k + 1)) = j by omega] at h1
  omega
theorem TI_ne (T : TI z n q Y s) {k j : Nat} (hk : k < n) (hj : j < n) (h : k ≠ j) : q k + ((Y k).length - s k) ≤ q j ∨ q j + ((Y j).length - s j) ≤ q k := by
  rcases Nat.lt_or_gt_of_ne h with h1 | h1
  · exact Or.inl (TI_lt T h1 (by omega))
  · exact Or.inr (TI_lt T h1 (by omega))
theorem TI_sum (T : TI z n q Y s) : ∀ j, j ≤ n → sumN (fun k => (Y k).length - s k) j = q j
  | 0, _ => T.1.symm
  | j + 1, h => by
    simp only [sumN]
    rw [TI_sum T j (by omega), (T.2.2.2.2.2 j (by omega)).2.2.2]
theorem TI_cov (T : TI z n q Y s) {p : Nat} : ∀ j, j ≤ n → p < q j → ∃ k, k < j ∧ q k ≤ p ∧ p < q k + ((Y k).length - s k)
  | 0, _, h => by rw [T.1] at h; omega
  | j + 1, hj, h => by
    have h2 := (T.2.2.2.2.2 j (by omega)).2.2.2
    by_cases hp : p < q j
    · obtain ⟨k, a, b⟩ := TI_cov T j (by omega) hp
      exact ⟨k, by omega, b⟩
    · exact ⟨j, by omega, by omega, by omega⟩
/-- the heap of the packet, of which the parts h were heard -/
def MH (z n : Nat) (q : Nat → Nat) (Y : Nat → List Nat) (s : Nat → Nat) (e : cH) (h : Nat → Bool) : Prop := hTh e = true ∧ hZ e = z ∧ hTg e = 7 ∧ hNb e = sumN (fun k => if h k = true then (Y k).length - s k else 0) n ∧ hNp e = sumN (fun k => if h k = true then 1 else 0) n ∧ (hXs e).length = z ∧ (∀ k, k < n → h k = true → hLn e (q k / 8) = (Y k).length - s k) ∧ (∀ k, k < n → h k = true → ∀ j, j < (Y k).length - s k → (hXs e).getD (q k + j) 0 = (Y k).getD (s k + j) 0 % 256) ∧ ∀ j, hLn e j ≠ 0 → ∃ k, k < n ∧ h k = true ∧ q k = 8 * j
def FPB (z n : Nat) (q : Nat → Nat) (Y : Nat → List Nat) (s : Nat → Nat) (F : List Nat) : Prop := F.length = z ∧ ∀ k, k < n → ∀ j, j < (Y k).length - s k → F.getD (q k + j) 0 = (Y k).getD (s k + j) 0 % 256
theorem FPB_1 (T : TI z n q Y s) {F F' : List Nat} (h : FPB z n q Y s F) (h' : FPB z n q Y s F') : F = F' := by
  apply List.ext_getElem?
  intro p
  by_cases hp : p < z
  · obtain ⟨k, a, b, c⟩ := TI_cov T (p := p) n (Nat.le_refl _) (by rw [T.2.1]; exact hp)
    have e1 := h.2 k a (p - q k) (by omega)
    have e2 := h'.2 k a (p - q k) (by omega)
    rw [show q k + (p - q k) = p by omega] at e1 e2
    rw [getD_some (by rw [h.1]; exact hp) 0, getD_some (by rw [h'.1]; exact hp) 0, e1, e2]
  · rw [List.getElem?_eq_none (by rw [h.1]; omega), List.getElem?_eq_none (by rw [h'.1]; omega)]
theorem MH_new {h : Nat → Bool} (h0 : ∀ k, k < n → h k = false) : MH z n q Y s (newH z 7 0) h := by
  refine ⟨rfl, rfl, rfl, ?_, ?_, ?_, fun k hk hh => ?_, fun k hk hh => ?_, fun j hj => absurd rfl hj⟩
  · exact (sumN_0 (fun k hk => by simp [h0 k hk])).symm
  · exact (sumN_0 (fun k hk => by simp [h0 k hk])).symm
  · exact List.length_replicate
  · rw [h0 k hk] at hh; cases hh
  · rw [h0 k hk] at hh; cases hh
theorem MH_keep (T : TI z n q Y s) {e : cH} {h : Nat → Bool} {k : Nat} (M : MH z n q Y s e h) (hk : k < n) (hh : h k = false) : MH z n q Y s (keepH e (q k) (Y k) (s k)) (upH h k) := by
  obtain ⟨m1, m2, m3, m4, m5, m6, m7, m8, m9⟩ := M
  obtain ⟨t1, t2, t3, t4⟩ := T.2.2.2.2.2 k hk
  have hpl : q k + ((Y k).length - s k) ≤ (hXs e).length := by rw [m6]; exact t1.2.2.1
  refine ⟨m1, m2, m3, ?_, ?_, ?_, fun k' hk' hh' => ?_, fun k' hk' hh' j hj => ?_, fun j hj => ?_⟩
  · show hNb e + ((Y k).length - s k) = _
    rw [m4]
    have := sumN_up (g := fun k => if h k = true then (Y k).length - s k else 0) (g' := fun j => if upH h k j = true then (Y j).length - s j else 0) hk (fun i hi => by simp only [upH_n hi])
    simp only [upH_s, hh, if_true, Bool.false_eq_true, if_false] at this
    exact this
  · show hNp e + 1 = _
    rw [m5]
    have := sumN_up (g := fun k => if h k = true then 1 else 0) (g' := fun j => if upH h k j = true then 1 else 0) hk (fun i hi => by simp only [upH_n hi])
    simp only [upH_s, hh, if_true, Bool.false_eq_true, if_false] at this
    exact this
  · show (pcs (hXs e) (q k) (Y k) (s k) ((Y k).length - s k)).length = z
    rw [pcs_len]; exact m6
  · show (if q k' / 8 = q k / 8 then (Y k).length - s k else hLn e (q k' / 8)) = _
    by_cases hkk : k' = k
    · subst hkk; rw [if_pos rfl]
    · have t' := T.2.2.2.2.2 k' hk'
      have hd := TI_ne T hk' hk hkk
      rw [if_neg (by have := t'.2.1; have := t'.2.2.1; omega)]
      rw [upH_n hkk] at hh'
      exact m7 k' hk' hh'
  · show (pcs (hXs e) (q k) (Y k) (s k) ((Y k).length - s k)).getD (q k' + j) 0 = _
    rw [pcs_gD _ _ _ _ _ _ hpl]
    by_cases hkk : k' = k
    · subst hkk; rw [if_pos (by omega), Nat.add_sub_cancel_left]
    · have hd := TI_ne T hk' hk hkk
      rw [if_neg (by omega)]
      rw [upH_n hkk] at hh'
      exact m8 k' hk' hh' j hj
  · have hj : (if j = q k / 8 then (Y k).length - s k else hLn e j) ≠ 0 := hj
    by_cases hjk : j = q k / 8
    · exact ⟨k, hk, upH_s h k, by omega⟩
    · rw [if_neg hjk] at hj
      obtain ⟨k', a, b, c⟩ := m9 j hj
      refine ⟨k', a, ?_, c⟩
      by_cases hkk : k' = k
      · subst hkk; exact upH_s h k'
      · rw [upH_n hkk]; exact b
theorem MH_no (T : TI z n q Y s) {e : cH} {h : Nat → Bool} {k : Nat} (M : MH z n q Y s e h) (hk : k < n) (hh : h k = false) : ¬ hLn e (q k / 8) = (Y k).length - s k ∧ hitB (hLn e) (q k) ((Y k).length - s k) = false := by
  obtain ⟨m1, m2, m3, m4, m5, m6, m7, m8, m9⟩ := M
  obtain ⟨t1, t2, t3, t4⟩ := T.2.2.2.2.2 k hk
  have ne : ∀ k', h k' = true → k' ≠ k := fun k' a b => by rw [b, hh] at a; cases a
  refine ⟨fun e1 => ?_, ?_⟩
  · obtain ⟨k', a, b, c⟩ := m9 (q k / 8) (by omega)
    have hd := TI_ne T a hk (ne k' b)
    have := (T.2.2.2.2.2 k' a).2.2.1
    omega
  · cases hx : hitB (hLn e) (q k) ((Y k).length - s k) with
    | false => rfl
    | true =>
      obtain ⟨i, i1, i2, i3, i4⟩ := hitB_iff.mp hx
      obtain ⟨k', a, b, c⟩ := m9 i (by omega)
      have hd := TI_ne T a hk (ne k' b)
      have e1 := m7 k' a b
      rw [c, show 8 * i / 8 = i by omega] at e1
      omega
theorem MH_whole (T : TI z n q Y s) {e : cH} {h : Nat → Bool} (M : MH z n q Y s e h) : wholeB e = true ↔ ∀ k, k < n → h k = true := by
  have h1 := (sumN_ite (h := h) (m := fun k => (Y k).length - s k) (n := n) (fun k hk => (T.2.2.2.2.2 k hk).2.2.1)).2
  have h2 := TI_sum T n (Nat.le_refl _)
  rw [h2, T.2.1] at h1
  rw [← h1]
  unfold wholeB
  rw [decide_eq_true_eq, M.2.2.2.1, M.2.1]
  exact ⟨fun g => g.2, fun g => ⟨M.1, g⟩⟩
theorem MH_b (T : TI z n q Y s) {e : cH} {h : Nat → Bool} (M : MH z n q Y s e h) : hNp e < 2 ^ 19 ∧ hNb e < 2 ^ 19 := by
  have h1 := (sumN_ite (h := h) (m := fun k => (Y k).length - s k) (n := n) (fun k hk => (T.2.2.2.2.2 k hk).2.2.1)).1
  have h2 := TI_sum T n (Nat.le_refl _)
  have h3 : sumN (fun k => if h k = true then 1 else 0) n ≤ n := sumN_1 (fun i _ => by split <;> omega)
  have h4 := T.2.2.2.2.1
  have h5 := T.2.2.2.1
  have h6 := T.2.1
  rw [M.2.2.2.1, M.2.2.2.2.1]
  exact ⟨by omega, by omega⟩
theorem MH_F {e : cH} {h : Nat → Bool} (M : MH z n q Y s e h) (ha : ∀ k, k < n → h k = true) : FPB z n q Y s (hXs e) := ⟨M.2.2.2.2.2.1, fun k hk j hj => M.2.2.2.2.2.2.2.1 k hk (ha k hk) j hj⟩
/-- the other packet's heap: one part of it -/
def OH (e : cH) : Prop := hTh e = true ∧ hZ e = 80 ∧ hTg e = 8 ∧ hNb e = 8 ∧ hNp e = 1 ∧ hLn e 5 = 8
def NBc (c : Nat → cH) : Prop := ∀ i, i < 3 → hNp (c i) < 2 ^ 19 ∧ hNb (c i) < 2 ^ 19
def RI (z n : Nat) (q : Nat → Nat) (Y : Nat → List Nat) (s : Nat → Nat) (c : Nat → cH) (h : Nat → Bool) (x : Bool) : Prop := NBc c ∧ ∃ i j, i < 3 ∧ j < 3 ∧ i ≠ j ∧ (∀ k, k < 3 → k ≠ i → k ≠ j → hTh (c k) = false) ∧ ((MH z n q Y s (c i) h ∧ (∃ k, k < n ∧ h k = true) ∧ ∃ k, k < n ∧ h k = false) ∨ (hTh (c i) = false ∧ ((∀ k, k < n → h k = false) ∨ ∀ k, k < n → h k = true))) ∧ ((x = true ∧ OH (c j)) ∨ (x = false ∧ hTh (c j) = false))
theorem drop0 (c : Nat → cH) : (fun j => dropH 0 (c j)) = c := by
  funext j
  unfold dropH lateH
  rw [if_neg (by simp)]
theorem late0 (c : Nat → cH) : lateN 0 c = 0 := sumN_0 (fun j _ => by unfold lateH; simp)
theorem partL0 {c : Nat → cH} {z t q s : Nat} {Y : List Nat} (h : okP z q (Y.length - s)) : partL 0 c z t q Y s = ((partP 0 c z t q Y s).1, 0, (partP 0 c z t q Y s).2.1, (partP 0 c z t q Y s).2.2.1, (partP 0 c z t q Y s).2.2.2) := by
  unfold partL
  rw [if_pos (okPB_iff.mpr h), drop0, late0]
theorem isOf_f {e : cH} {z t : Nat} (h : hTh e = false) : isOfB e z t = false := by unfold isOfB; simp [h]
theorem idx_at {c : Nat → cH} {z t i : Nat} (hi : i < 3) (h : isOfB (c i) z t = true) (hu : ∀ k, k < 3 → k ≠ i → isOfB (c k) z t = false) : idxH z t c = i := by
  unfold idxH
  rcases (show i = 0 ∨ i = 1 ∨ i = 2 by omega) with rfl | rfl | rfl
  · rw [if_pos h]
  · rw [hu 0 (by decide) (by decide), if_neg (by decide), if_pos h]
  · rw [hu 0 (by decide) (by decide), hu 1 (by decide) (by decide), if_neg (by decide), if_neg (by decide), if_pos h]
theorem idx_free {c : Nat → cH} {z t i : Nat} (hi : i < 3) (h : hTh (c i) = false) (hu : ∀ k, k < 3 → isOfB (c k) z t = false) : idxH z t c < 3 ∧ hTh (c (idxH z t c)) = false := by
  unfold idxH
  rw [hu 0 (by decide), hu 1 (by decide), hu 2 (by decide), if_neg (by decide), if_neg (by decide), if_neg (by decide)]
  by_cases h2 : hTh (c 2) = false
  · rw [if_pos h2]; exact ⟨by decide, h2⟩
  · rw [if_neg h2]
    by_cases h1 : hTh (c 1) = false
    · rw [if_pos h1]; exact ⟨by decide, h1⟩
    · rw [if_neg h1]
      rcases (show i = 0 ∨ i = 1 ∨ i = 2 by omega) with rfl | rfl | rfl
      · exact ⟨by decide, h⟩
      · exact absurd h h1
      · exact absurd h h2
/-- a part laid into the heap at i -/
theorem fin_RI (T : TI z n q Y s) {c : Nat → cH} {h : Nat → Bool} {x : Bool} {k i j : Nat} {e : cH} (hB : NBc c) (hi : i < 3) (hj : j < 3) (hij : i ≠ j) (ho : ∀ k, k < 3 → k ≠ i → k ≠ j → hTh (c k) = false) (hx : (x = true ∧ OH (c j)) ∨ (x = false ∧ hTh (c j) = false)) (hk : k < n) (M : MH z n q Y s e (upH h k)) : ∃ c', RI z n q Y s c' (upH h k) x ∧ ((finP 0 i c e = (1, 0, c', none) ∧ ∃ k', k' < n ∧ upH h k k' = false) ∨ (∃ F, finP 0 i c e = (2, 0, c', some F) ∧ FPB z n q Y s F ∧ ∀ k', k' < n → upH h k k' = true)) := by
  have hb := MH_b T M
  have hw := MH_whole T M
  unfold finP
  by_cases hwh : wholeB e = true
  · rw [if_pos hwh]
    refine ⟨setH c i (endH e), ⟨fun i' hi' => ?_, i, j, hi, hj, hij, fun k' a b d => ?_, Or.inr ⟨?_, Or.inr (hw.mp hwh)⟩, ?_⟩, Or.inr ⟨_, rfl, MH_F M (hw.mp hwh), hw.mp hwh⟩⟩
    · by_cases hii : i' = i
      · rw [hii, setH_same]; exact hb
      · rw [setH_ne hii]; exact hB i' hi'
    · rw [setH_ne b]; exact ho k' a b d
    · rw [setH_same]; rfl
    · rw [setH_ne (Ne.symm hij)]; exact hx
  · rw [if_neg hwh]
    have hna : ∃ k', k' < n ∧ upH h k k' = false := by
      rcases Classical.em (∃ k', k' < n ∧ upH h k k' = false) with g | g
      · exact g
      · refine absurd (hw.mpr (fun k' hk' => ?_)) hwh
        cases hc : upH h k k' with
        | true => rfl
        | false => exact absurd ⟨k', hk', hc⟩ g
    refine ⟨setH c i e, ⟨fun i' hi' => ?_, i, j, hi, hj, hij, fun k' a b d => ?_, Or.inl ⟨?_, ⟨k, hk, upH_s h k⟩, hna⟩, ?_⟩, Or.inl ⟨rfl, hna⟩⟩
    · by_cases hii : i' = i
      · rw [hii, setH_same]; exact hb
      · rw [setH_ne hii]; exact hB i' hi'
    · rw [setH_ne b]; exact ho k' a b d
    · rw [setH_same]; exact M
    · rw [setH_ne (Ne.symm hij)]; exact hx
theorem is7 {e : cH} {z : Nat} {x : Bool} (h : (x = true ∧ OH e) ∨ (x = false ∧ hTh e = false)) : isOfB e z 7 = false := by
  rcases h with h | h
  · unfold isOfB; rw [h.2.2.2.1]; simp
  · exact isOf_f h.2
theorem is8 {e : cH} {h : Nat → Bool} {P Q : Prop} (g : (MH z n q Y s e h ∧ P) ∨ (hTh e = false ∧ Q)) : isOfB e 80 8 = false := by
  rcases g with g | g
  · unfold isOfB; rw [g.1.2.2.1]; simp
  · exact isOf_f g.1
theorem hear_old (T : TI z n q Y s) {c : Nat → cH} {h : Nat → Bool} {x : Bool} {k : Nat} (R : RI z n q Y s c h x) (hk : k < n) (hh : h k = true) (hna : ∃ k', k' < n ∧ h k' = false) : partL 0 c z 7 (q k) (Y k) (s k) = (0, 0, 0, c, none) := by
  obtain ⟨hB, i, j, hi, hj, hij, ho, hm, hx⟩ := R
  have M : MH z n q Y s (c i) h := by
    rcases hm with hm | ⟨-, hm | hm⟩
    · exact hm.1
    · rw [hm k hk] at hh; cases hh
    · obtain ⟨k', a, b⟩ := hna
      rw [hm k' a] at b; cases b
  have his : isOfB (c i) z 7 = true := by unfold isOfB; rw [M.1, M.2.1, M.2.2.1]; simp
  have hid : idxH z 7 c = i := idx_at hi his (fun k' a b => by
    by_cases hkj : k' = j
    · rw [hkj]; exact is7 hx
    · exact isOf_f (ho k' a b hkj))
  rw [partL0 (T.2.2.2.2.2 k hk).1]
  have e : partP 0 c z 7 (q k) (Y k) (s k) = (0, 0, c, none) := by
    unfold partP
    rw [hid, if_pos his, if_pos (M.2.2.2.2.2.2.1 k hk hh)]
  rw [e]
theorem hear_new (T : TI z n q Y s) {c : Nat → cH} {h : Nat → Bool} {x : Bool} {k : Nat} (R : RI z n q Y s c h x) (hk : k < n) (hh : h k = false) : ∃ c', RI z n q Y s c' (upH h k) x ∧ ((partL 0 c z 7 (q k) (Y k) (s k) = (1, 0, 0, c', none) ∧ ∃ k', k' < n ∧ upH h k k' = false) ∨ (∃ F, partL 0 c z 7 (q k) (Y k) (s k) = (2, 0, 0, c', some F) ∧ FPB z n q Y s F ∧ ∀ k', k' < n → upH h k k' = true)) := by
  obtain ⟨hB, i, j, hi, hj, hij, ho, hm, hx⟩ := R
  rw [partL0 (T.2.2.2.2.2 k hk).1]
  have fin : ∀ {i' j' : Nat} {e : cH}, partP 0 c z 7 (q k) (Y k) (s k) = finP 0 i' c e → (∃ c', RI z n q Y s c' (upH h k) x ∧ ((finP 0 i' c e = (1, 0, c', none) ∧ ∃ k', k' < n ∧ upH h k k' = false) ∨ (∃ F, finP 0 i' c e = (2, 0, c', some F) ∧ FPB z n q Y s F ∧ ∀ k', k' < n → upH h k k' = true))) → ∃ c', RI z n q Y s c' (upH h k) x ∧ ((((partP 0 c z 7 (q k) (Y k) (s k)).1, 0, (partP 0 c z 7 (q k) (Y k) (s k)).2.1, (partP 0 c z 7 (q k) (Y k) (s k)).2.2.1, (partP 0 c z 7 (q k) (Y k) (s k)).2.2.2) = ((1, 0, 0, c', none) : lR) ∧ ∃ k', k' < n ∧ upH h k k' = false) ∨ (∃ F, (((partP 0 c z 7 (q k) (Y k) (s k)).1, 0, (partP 0 c z 7 (q k) (Y k) (s k)).2.1, (partP 0 c z 7 (q k) (Y k) (s k)).2.2.1, (partP 0 c z 7 (q k) (Y k) (s k)).2.2.2) : lR) = (2, 0, 0, c', some F) ∧ FPB z n q Y s F ∧ ∀ k', k' < n → upH h k k' = true)) := by
    intro i' j' e he ⟨c', r1, r2⟩
    rw [he]
    refine ⟨c', r1, ?_⟩
    rcases r2 with ⟨r2, r3⟩ | ⟨F, r2, r3⟩
    · exact Or.inl ⟨by rw [r2], r3⟩
    · exact Or.inr ⟨F, by rw [r2], r3⟩
  rcases hm with ⟨M, -, -⟩ | ⟨hf, hm⟩
  · have his : isOfB (c i) z 7 = true := by unfold isOfB; rw [M.1, M.2.1, M.2.2.1]; simp
    have hid : idxH z 7 c = i := idx_at hi his (fun k' a b => by
      by_cases hkj : k' = j
      · rw [hkj]; exact is7 hx
      · exact isOf_f (ho k' a b hkj))
    have hno := MH_no T M hk hh
    refine fin (j' := j) (i' := i) (e := keepH (c i) (q k) (Y k) (s k)) ?_ (fin_RI T hB hi hj hij ho hx hk (MH_keep T M hk hh))
    unfold partP
    rw [hid, if_pos his, if_neg hno.1, hno.2, if_neg (by decide)]
  · have hall : ∀ k', k' < n → h k' = false := by
      rcases hm with hm | hm
      · exact hm
      · rw [hm k hk] at hh; cases hh
    have hu : ∀ k', k' < 3 → isOfB (c k') z 7 = false := fun k' a => by
      by_cases hki : k' = i
      · rw [hki]; exact isOf_f hf
      · by_cases hkj : k' = j
        · rw [hkj]; exact is7 hx
        · exact isOf_f (ho k' a hki hkj)
    obtain ⟨f1, f2⟩ := idx_free (z := z) (t := 7) hi hf hu
    have he : partP 0 c z 7 (q k) (Y k) (s k) = finP 0 (idxH z 7 c) c (keepH (newH z 7 0) (q k) (Y k) (s k)) := by
      unfold partP
      rw [hu _ f1, if_neg (by decide), f2, if_neg (by decide)]
    have M' := MH_keep T (MH_new (z := z) (n := n) (q := q) (Y := Y) (s := s) hall) hk hh
    generalize idxH z 7 c = i0 at f1 f2 he
    by_cases h0 : i0 = j
    · have hxf : x = false := by
        rcases hx with hx | hx
        · rw [h0, hx.2.1] at f2; cases f2
        · exact hx.1
      exact fin (j' := i) he (fin_RI T hB f1 hi (by rw [h0]; exact Ne.symm hij) (fun k' a b d => ho k' a d (by rw [← h0]; exact b)) (Or.inr ⟨hxf, hf⟩) hk M')
    · refine fin (j' := j) he (fin_RI T hB f1 hj h0 (fun k' a b d => ?_) hx hk M')
      by_cases hki : k' = i
      · rw [hki]; exact hf
      · exact ho k' a hki d
theorem RI_end {c : Nat → cH} {h : Nat → Bool} {x : Bool} (R : RI z n q Y s c h x) (hn : 0 < n) (ha : ∀ k, k < n → h k = true) : sumN (fun j => if hTh (c j) = true then 1 else 0) 3 = (if x = true then 1 else 0) ∧ sumN (fun j => if hTh (c j) = true then hNp (c j) else 0) 3 = (if x = true then 1 else 0) := by
  obtain ⟨hB, i, j, hi, hj, hij, ho, hm, hx⟩ := R
  have hf : hTh (c i) = false := by
    rcases hm with ⟨-, -, k, a, b⟩ | hm
    · rw [ha k a] at b; cases b
    · exact hm.1
  have hz : ∀ k, k < 3 → k ≠ j → hTh (c k) = false := fun k a b => by
    by_cases hki : k = i
    · rw [hki]; exact hf
    · exact ho k a hki b
  have hs : ∀ g : Nat → Nat, sumN (fun k => if hTh (c k) = true then g k else 0) 3 = if hTh (c j) = true then g j else 0 := fun g => by
    have := sumN_up (g := fun k => if hTh (c k) = true then g k else 0) (g' := fun k => if k = j then 0 else if hTh (c k) = true then g k else 0) hj (fun i hi => by simp only [if_neg hi])
    have h0 : sumN (fun k => if k = j then 0 else if hTh (c k) = true then g k else 0) 3 = 0 := sumN_0 (fun k hk => by
      by_cases hkj : k = j
      · rw [if_pos hkj]
      · rw [if_neg hkj, hz k hk hkj, if_neg (by decide)])
    simp only [if_true] at this
    omega
  rw [hs (fun _ => 1), hs (fun k => hNp (c k))]
  rcases hx with ⟨rfl, hx⟩ | ⟨rfl, hx⟩
  · rw [hx.1, hx.2.2.2.2.1]; exact ⟨rfl, rfl⟩
  · rw [hx]; exact ⟨rfl, rfl⟩
end RC
