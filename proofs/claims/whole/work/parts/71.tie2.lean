theorem setH_same (c : Nat → cH) (i : Nat) (e : cH) : setH c i e i = e := if_pos rfl
theorem setH_ne {c : Nat → cH} {i j : Nat} {e : cH} (h : j ≠ i) : setH c i e j = c j := if_neg h
theorem EQ_up {ck ck' : Nat} {e : cH} {m : mE} (h : EQ ck e m) (g : ck ≤ ck') : EQ ck' e m := ⟨h.1, h.2.1, h.2.2.1, h.2.2.2.1, h.2.2.2.2.1, h.2.2.2.2.2.1, h.2.2.2.2.2.2.1, ⟨h.2.2.2.2.2.2.2.1.1, h.2.2.2.2.2.2.2.1.2.1, h.2.2.2.2.2.2.2.1.2.2.1, Nat.le_trans h.2.2.2.2.2.2.2.1.2.2.2 g⟩, h.2.2.2.2.2.2.2.2⟩
theorem HR_up {ck ck' : Nat} {c : Nat → cH} {hl : List mE} (h : HR ck c hl) (g : ck ≤ ck') : HR ck' c hl := by
  obtain ⟨pl, h1, h2, h3, h4, h5⟩ := h
  exact ⟨pl, h1, h2, h3, fun k hk => EQ_up (h4 k hk) g, h5⟩
/-- nothing depends on places from 3 on -/
theorem HR_cg {ck : Nat} {c c' : Nat → cH} {hl : List mE} (h : HR ck c hl) (g : ∀ j, j < 3 → c' j = c j) : HR ck c' hl := by
  obtain ⟨pl, h1, h2, h3, h4, h5⟩ := h
  exact ⟨pl, h1, h2, h3, fun k hk => by rw [g _ (h1 k hk)]; exact h4 k hk, fun j hj ht => h5 j hj (by rw [← g j hj]; exact ht)⟩
/-- a heap goes -/
theorem HR_go {ck : Nat} {c : Nat → cH} {hl : List mE} (h : HR ck c hl) {i : Nat} (hi : i < hl.length) : ∃ j, j < 3 ∧ EQ ck (c j) (hl.getD i d0) ∧ HR ck (setH c j (endH (c j))) (hl.eraseIdx i) ∧ (∀ e', EQ ck e' (hl.getD i d0) → HR ck (setH c j e') hl) ∧ (∀ e' m', EQ ck e' m' → m'.1 = (hl.getD i d0).1 → m'.2.1 = (hl.getD i d0).2.1 → HR ck (setH c j e') (hl.set i m')) ∧ ∀ e', hTh e' = false → HR ck (setH c j e') (hl.eraseIdx i) := by
  obtain ⟨pl, h1, h2, h3, h4, h5⟩ := h
  have hs : ∀ e' m', EQ ck e' m' → m'.1 = (hl.getD i d0).1 → m'.2.1 = (hl.getD i d0).2.1 → HR ck (setH c (pl i) e') (hl.set i m') := by
    intro e' m' he k1 k2
    have gk : ∀ k, k < hl.length → ((hl.set i m').getD k d0).1 = (hl.getD k d0).1 ∧ ((hl.set i m').getD k d0).2.1 = (hl.getD k d0).2.1 := by
      intro k hk
      by_cases hki : k = i
      · subst hki; rw [getD_set_same hk]; exact ⟨k1, k2⟩
      · rw [getD_set_ne hki]; exact ⟨rfl, rfl⟩
    refine ⟨pl, fun k hk => h1 k (by rwa [List.length_set] at hk), fun k k' hk hk' => h2 k k' (by rwa [List.length_set] at hk) (by rwa [List.length_set] at hk'), fun k k' hk hk' e1 e2 => ?_, fun k hk => ?_, fun j hj ht => ?_⟩
    · rw [List.length_set] at hk hk'
      rw [(gk k hk).1, (gk k' hk').1] at e1
      rw [(gk k hk).2, (gk k' hk').2] at e2
      exact h3 k k' hk hk' e1 e2
    · rw [List.length_set] at hk
      by_cases hki : k = i
      · subst hki; rw [getD_set_same hk, setH_same]; exact he
      · rw [getD_set_ne hki, setH_ne (fun e => hki (h2 k i hk hi e))]; exact h4 k hk
    · rw [List.length_set]
      by_cases hjp : j = pl i
      · exact ⟨i, hi, hjp.symm⟩
      · rw [setH_ne hjp] at ht
        exact h5 j hj ht
  have hg : ∀ e', hTh e' = false → HR ck (setH c (pl i) e') (hl.eraseIdx i) := by
    intro e' he'
    have hl1 : (hl.eraseIdx i).length = hl.length - 1 := List.length_eraseIdx_of_lt hi
    refine ⟨fun k => pl (if k < i then k else k + 1), fun k hk => ?_, fun k k' hk hk' e => ?_, fun k k' hk hk' e1 e2 => ?_, fun k hk => ?_, fun j hj ht => ?_⟩
    · rw [hl1] at hk
      exact h1 _ (by split <;> omega)
    · rw [hl1] at hk hk'
      have := h2 _ _ (by split <;> omega) (by split <;> omega) e
      split at this <;> split at this <;> omega
    · rw [hl1] at hk hk'
      rw [er_getD, er_getD] at e1 e2
      have := h3 _ _ (by split <;> omega) (by split <;> omega) e1 e2
      split at this <;> split at this <;> omega
    · rw [hl1] at hk
      have hne : (if k < i then k else k + 1) ≠ i := by split <;> omega
      have hlt : (if k < i then k else k + 1) < hl.length := by split <;> omega
      rw [er_getD, setH_ne (fun e => hne (h2 _ i hlt hi e))]
      exact h4 _ hlt
    · by_cases hjp : j = pl i
      · rw [hjp, setH_same, he'] at ht
        exact absurd ht (by decide)
      · rw [setH_ne hjp] at ht
        obtain ⟨k, hk, e⟩ := h5 j hj ht
        have hki : k ≠ i := fun e2 => hjp (by rw [← e, e2])
        rw [hl1]
        by_cases hlt : k < i
        · exact ⟨k, by omega, by simp only [hlt, if_true]; exact e⟩
        · exact ⟨k - 1, by omega, by show pl (if k - 1 < i then k - 1 else k - 1 + 1) = j; rw [if_neg (by omega), show k - 1 + 1 = k by omega]; exact e⟩
  refine ⟨pl i, h1 i hi, h4 i hi, hg _ rfl, fun e' he => ?_, hs, hg⟩
  have h6 := hs e' (hl.getD i d0) he rfl rfl
  rwa [show hl.set i (hl.getD i d0) = hl by
    apply List.ext_getElem?
    intro k
    rw [List.getElem?_set]
    by_cases hk : i = k
    · subst hk; rw [if_pos rfl, if_pos hi, getD_some hi d0]
    · rw [if_neg hk]] at h6
/-- a heap comes -/
theorem HR_new {ck : Nat} {c : Nat → cH} {hl : List mE} (h : HR ck c hl) {j : Nat} (hj : j < 3) (hf : hTh (c j) = false) {e : cH} {m : mE} (he : EQ ck e m) (hk : ∀ k, k < hl.length → ¬ ((hl.getD k d0).1 = m.1 ∧ (hl.getD k d0).2.1 = m.2.1)) : HR ck (setH c j e) (hl ++ [m]) := by
  obtain ⟨pl, h1, h2, h3, h4, h5⟩ := h
  have gd : ∀ k, (hl ++ [m]).getD k d0 = if k < hl.length then hl.getD k d0 else if k = hl.length then m else d0 := by
    intro k
    by_cases h : k < hl.length
    · rw [if_pos h]; simp only [List.getD_eq_getElem?_getD, List.getElem?_append_left h]
    · rw [if_neg h]
      by_cases h2 : k = hl.length
      · subst h2; rw [if_pos rfl]; simp [List.getD_eq_getElem?_getD]
      · rw [if_neg h2, getD_out (by rw [List.length_append, List.length_singleton]; omega)]
  have hl1 : (hl ++ [m]).length = hl.length + 1 := by rw [List.length_append, List.length_singleton]
  have nj : ∀ k, k < hl.length → pl k ≠ j := fun k hk e2 => by
    have := (h4 k hk).1
    rw [e2, hf] at this
    exact absurd this (by decide)
  refine ⟨fun k => if k < hl.length then pl k else j, fun k hk2 => ?_, fun k k' hk2 hk' e1 => ?_, fun k k' hk2 hk' e1 e2 => ?_, fun k hk2 => ?_, fun j' hj' ht => ?_⟩
  · show (if k < hl.length then pl k else j) < 3
    split
    · rename_i h6; exact h1 k h6
    · exact hj
  · rw [hl1] at hk2 hk'
    have e1 : (if k < hl.length then pl k else j) = (if k' < hl.length then pl k' else j) := e1
    by_cases g1 : k < hl.length
    · by_cases g2 : k' < hl.length
      · rw [if_pos g1, if_pos g2] at e1; exact h2 k k' g1 g2 e1
      · rw [if_pos g1, if_neg g2] at e1; exact absurd e1 (nj k g1)
    · by_cases g2 : k' < hl.length
      · rw [if_neg g1, if_pos g2] at e1; exact absurd e1.symm (nj k' g2)
      · omega
  · rw [hl1] at hk2 hk'
    rw [gd, gd] at e1 e2
    by_cases g1 : k < hl.length
    · by_cases g2 : k' < hl.length
      · rw [if_pos g1, if_pos g2] at e1 e2; exact h3 k k' g1 g2 e1 e2
      · rw [if_pos g1, if_neg g2, if_pos (by omega)] at e1 e2; exact absurd ⟨e1, e2⟩ (hk k g1)
    · by_cases g2 : k' < hl.length
      · rw [if_neg g1, if_pos (by omega), if_pos g2] at e1 e2; exact absurd ⟨e1.symm, e2.symm⟩ (hk k' g2)
      · omega
  · rw [hl1] at hk2
    rw [gd]
    by_cases g1 : k < hl.length
    · rw [if_pos g1]
      show EQ ck (setH c j e (if k < hl.length then pl k else j)) _
      rw [if_pos g1, setH_ne (nj k g1)]; exact h4 k g1
    · rw [if_neg g1, if_pos (by omega)]
      show EQ ck (setH c j e (if k < hl.length then pl k else j)) _
      rw [if_neg g1, setH_same]; exact he
  · rw [hl1]
    by_cases g : j' = j
    · exact ⟨hl.length, by omega, by show (if hl.length < hl.length then _ else j) = j'; rw [if_neg (Nat.lt_irrefl _), g]⟩
    · rw [setH_ne g] at ht
      obtain ⟨k, g2, g3⟩ := h5 j' hj' ht
      exact ⟨k, by omega, by show (if k < hl.length then _ else j) = j'; rw [if_pos g2]; exact g3⟩
theorem HR_no {ck : Nat} {c : Nat → cH} (h : HR ck c []) : ∀ j, j < 3 → hTh (c j) = false := by
  obtain ⟨pl, -, -, -, -, h5⟩ := h
  intro j hj
  cases hc : hTh (c j) with
  | false => rfl
  | true =>
    obtain ⟨k, hk, -⟩ := h5 j hj hc
    exact absurd hk (by simp)
def mSumW (g : mE → Nat) : List mE → Nat
  | [] => 0
  | m :: l => g m + mSumW g l
/-- what is counted over places is what is counted over the list -/
theorem HR_sum {ck : Nat} {g : cH → Nat} {g' : mE → Nat} (hg : ∀ e m, EQ ck e m → g e = g' m) (h0 : ∀ e, hTh e = false → g e = 0) : ∀ {hl : List mE} {c : Nat → cH}, HR ck c hl → sumN (fun j => g (c j)) 3 = mSumW g' hl
  | [], c, h => sumN_0 (fun i hi => h0 _ (HR_no h i hi))
  | m :: l, c, h => by
    obtain ⟨j, hj, he, h2, -⟩ := HR_go h (i := 0) (by simp)
    have ih := HR_sum hg h0 (hl := l) (c := setH c j (endH (c j))) h2
    have e1 := sumN_up (g := fun i => g (c i)) (g' := fun i => g (setH c j (endH (c j)) i)) (j := j) (n := 3) hj (fun i hi => by show g (c i) = g (setH c j (endH (c j)) i); rw [setH_ne hi])
    have e2 : g (setH c j (endH (c j)) j) = 0 := h0 _ (by rw [setH_same]; rfl)
    have e3 : g (c j) = g' m := hg _ _ he
    simp only [mSumW]
    have e1 : sumN (fun i => g (c i)) 3 + g (setH c j (endH (c j)) j) = sumN (fun i => g (setH c j (endH (c j)) i)) 3 + g (c j) := e1
    omega
theorem mSumW_len : ∀ hl : List mE, mSumW (fun _ => 1) hl = hl.length
  | [] => rfl
  | m :: l => by simp only [mSumW, mSumW_len l, List.length_cons]; omega
theorem mSumW_cP (w : Nat) : ∀ hl : List mE, mSumW (fun m => cQ w m.2.2.2) hl = cP w hl
  | [] => rfl
  | m :: l => by simp only [mSumW, mSumW_cP w l, cP]
theorem HR_cnt {ck wh dr la an i : Nat} {c : Nat → cH} {hl : List mE} {fr : List (List Nat)} (h : HR ck c hl) : cntA fr c ck wh dr la an i = cntM fr hl ck wh dr la an i := by
  have e0 : sumN (fun j => if hTh (c j) = true then 1 else 0) 3 = hl.length := (HR_sum (g := fun e => if hTh e = true then 1 else 0) (g' := fun _ => 1) (fun e m he => if_pos he.1) (fun e he => if_neg (by rw [he]; decide)) h).trans (mSumW_len hl)
  have e1 : sumN (fun j => if hTh (c j) = true then hNp (c j) else 0) 3 = cP 1 hl := (HR_sum (g := fun e => if hTh e = true then hNp e else 0) (g' := fun m => cQ 1 m.2.2.2) (fun e m he => by show (if hTh e = true then hNp e else 0) = _; rw [if_pos he.1, he.2.2.2.2.1]; rfl) (fun e he => if_neg (by rw [he]; decide)) h).trans (mSumW_cP 1 hl)
  have e2 : sumN (fun j => if hTh (c j) = true then hNb (c j) else 0) 3 = cP 2 hl := (HR_sum (g := fun e => if hTh e = true then hNb e else 0) (g' := fun m => cQ 2 m.2.2.2) (fun e m he => by show (if hTh e = true then hNb e else 0) = _; rw [if_pos he.1, he.2.2.2.2.2.1]; rfl) (fun e he => if_neg (by rw [he]; decide)) h).trans (mSumW_cP 2 hl)
  rcases (show i = 0 ∨ i = 1 ∨ i = 2 ∨ i = 3 ∨ i = 4 ∨ i = 5 ∨ i = 6 ∨ i = 7 ∨ i = 8 ∨ 8 < i by omega) with rfl | rfl | rfl | rfl | rfl | rfl | rfl | rfl | rfl | hi
  · exact congrArg nI e0
  · exact congrArg nI e1
  · exact congrArg nI e2
  · rfl
  · rfl
  · rfl
  · rfl
  · rfl
  · rfl
  · rw [cntA_out hi, cntM_out hi]
/-- the late heaps go -/
theorem HR_late {ck : Nat} : ∀ {n : Nat} {hl : List mE} {c : Nat → cH}, hl.length ≤ n → HR ck c hl → HR ck (fun j => dropH ck (c j)) (mLt ck hl) ∧ lateN ck c + (mLt ck hl).length = hl.length := by
  intro n
  induction n with
  | zero =>
    intro hl c hn h
    have e : hl = [] := List.eq_nil_of_length_eq_zero (by omega)
    subst e
    have hno := HR_no h
    refine ⟨HR_cg h (fun j hj => ?_), ?_⟩
    · show dropH ck (c j) = c j
      rw [dropH, lateH, hno j hj]; simp
    · show lateN ck c + 0 = 0
      rw [lateN, sumN_0 (fun i hi => by rw [lateH, hno i hi]; simp)]
  | succ n ih =>
    intro hl c hn h
    by_cases hx : ∃ i, i < hl.length ∧ ¬ ck < (hl.getD i d0).2.2.1 + 60
    · obtain ⟨i, hi, hc⟩ := hx
      obtain ⟨j, hj, he, h2, -⟩ := HR_go h hi
      have hl1 : (hl.eraseIdx i).length = hl.length - 1 := List.length_eraseIdx_of_lt hi
      obtain ⟨g1, g2⟩ := ih (by omega) h2
      have hf : mLt ck (hl.eraseIdx i) = mLt ck hl := by
        have e1 : hl = hl.take i ++ (hl.getD i d0 :: hl.drop (i + 1)) := by
          have e2 : hl.getD i d0 = hl[i] := by simp [List.getD_eq_getElem?_getD, List.getElem?_eq_getElem hi]
          rw [e2, ← List.drop_eq_getElem_cons hi, List.take_append_drop]
        have e3 : hl.eraseIdx i = hl.take i ++ hl.drop (i + 1) := List.eraseIdx_eq_take_drop_succ ..
        rw [e3]
        conv => rhs; rw [e1]
        simp only [mLt, List.filter_append]
        congr 1
        rw [List.filter_cons, if_neg (by rw [decide_eq_false hc]; decide)]
      have hlj : lateH ck (c j) = true := decide_eq_true ⟨he.1, by rw [he.2.2.2.1]; omega⟩
      have hle : lateH ck (endH (c j)) = false := decide_eq_false (fun g => absurd g.1 (by show ¬ false = true; decide))
      rw [hf] at g1 g2
      refine ⟨HR_cg g1 (fun k hk => ?_), ?_⟩
      · show dropH ck (c k) = dropH ck (setH c j (endH (c j)) k)
        by_cases hkj : k = j
        · subst hkj
          rw [setH_same, dropH, dropH, if_pos hlj, if_neg (by rw [hle]; decide)]
        · rw [setH_ne hkj]
      · have e1 := sumN_up (g := fun k => if lateH ck (c k) = true then 1 else 0) (g' := fun k => if lateH ck (setH c j (endH (c j)) k) = true then 1 else 0) (j := j) (n := 3) hj (fun k hk => by show (if lateH ck (c k) = true then 1 else 0) = (if lateH ck (setH c j (endH (c j)) k) = true then 1 else 0); rw [setH_ne hk])
        have e1 : lateN ck c + (if lateH ck (setH c j (endH (c j)) j) = true then 1 else 0) = lateN ck (setH c j (endH (c j))) + (if lateH ck (c j) = true then 1 else 0) := e1
        rw [setH_same, hle, hlj] at e1
        have e1 : lateN ck c + 0 = lateN ck (setH c j (endH (c j))) + 1 := e1
        omega
    · have hk : ∀ i, i < hl.length → ck < (hl.getD i d0).2.2.1 + 60 := fun i hi => Classical.byContradiction (fun g => hx ⟨i, hi, g⟩)
      have hf : mLt ck hl = hl := List.filter_eq_self.mpr (fun m hm => by
        obtain ⟨i, hi, e⟩ := mem_at hm d0
        have := hk i hi
        rw [e] at this
        exact decide_eq_true this)
      have hno : ∀ j, j < 3 → lateH ck (c j) = false := by
        intro j hj
        obtain ⟨pl, h1, h2, h3, h4, h5⟩ := h
        refine decide_eq_false (fun g => ?_)
        obtain ⟨k, hkl, e⟩ := h5 j hj g.1
        have q1 := (h4 k hkl).2.2.2.1
        have q2 := hk k hkl
        rw [e] at q1
        omega
      rw [hf]
      refine ⟨HR_cg h (fun j hj => ?_), ?_⟩
      · show dropH ck (c j) = c j
        rw [dropH, if_neg (by rw [hno j hj]; decide)]
      · rw [lateN, sumN_0 (fun i hi => by rw [if_neg (by rw [hno i hi]; decide)]), Nat.zero_add]
