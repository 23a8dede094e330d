/-! a part comes to its heap -/
abbrev mP : Type := Nat × List Nat
abbrev p0 : mP := (0, [])
def mMt (z t : Nat) (e : mE) : Bool := decide (e.1 = z ∧ e.2.1 = t)
def mLt (ck : Nat) (hl : List mE) : List mE := hl.filter (fun e => decide (ck < e.2.2.1 + 60))
def fI (z t : Nat) : List mE → Nat
  | [] => 0
  | e :: l => if mMt z t e = true then 0 else fI z t l + 1
def mSm (q n : Nat) (ps : List mP) : Bool := ps.any (fun x => decide (x.1 = q ∧ x.2.length = n))
def mMe (q n : Nat) (ps : List mP) : Bool := ps.any (fun x => decide (x.1 < q + n ∧ q < x.1 + x.2.length))
def mSum : List mP → Nat
  | [] => 0
  | x :: l => x.2.length + mSum l
def CV (ps : List mP) (X : List Nat) : Prop := ∀ i, i < X.length → ∃ k, k < ps.length ∧ (ps.getD k p0).1 ≤ i ∧ i < (ps.getD k p0).1 + (ps.getD k p0).2.length ∧ (ps.getD k p0).2.getD (i - (ps.getD k p0).1) 0 = X.getD i 0
def addP (e : mE) (x : mP) : mE := (e.1, e.2.1, e.2.2.1, e.2.2.2 ++ [x])
def PostC (K : kN) (tp ot : List Nat) (fr : List (List Nat)) (T : Nat → Int32) (ck wh dr z t q : Nat) (ys : List Nat) (L : List mE) (h la an : Nat) (v : Int32) (S' : tw_S) : Prop :=
  if mSum ((L.getD h d0).2.2.2 ++ [(q, ys)]) < z then v = nI 1 ∧ MI S' K tp ot fr T (L.set h (addP (L.getD h d0) (q, ys))) ck wh dr la an
  else v = nI 2 ∧ ∀ X : List Nat, X.length = z → CV ((L.getD h d0).2.2.2 ++ [(q, ys)]) X → MI S' K tp X fr T ((L.set h (addP (L.getD h d0) (q, ys))).eraseIdx h) ck (wh + 1) dr la an
def PostB (K : kN) (tp ot : List Nat) (fr : List (List Nat)) (T : Nat → Int32) (ck wh dr z t q : Nat) (ys : List Nat) (L : List mE) (h la an : Nat) (v : Int32) (S' : tw_S) : Prop :=
  if mSm q ys.length (L.getD h d0).2.2.2 = true then v = nI 0 ∧ MI S' K tp ot fr T L ck wh (dr + 1) la an
  else if mMe q ys.length (L.getD h d0).2.2.2 = true then PostC K tp ot fr T ck wh dr z t q ys (L.set h (z, t, ck, [])) h la (an + 1) v S'
  else PostC K tp ot fr T ck wh dr z t q ys L h la an v S'
def PostA (K : kN) (tp ot : List Nat) (fr : List (List Nat)) (T : Nat → Int32) (ck wh dr z t q : Nat) (ys : List Nat) (L : List mE) (la an : Nat) (v : Int32) (S' : tw_S) : Prop :=
  if fI z t L < L.length then PostB K tp ot fr T ck wh dr z t q ys L (fI z t L) la an v S'
  else if L.length = 3 then v = nI 0 ∧ MI S' K tp ot fr T L ck wh (dr + 1) la an
  else PostB K tp ot fr T ck wh dr z t q ys (L ++ [(z, t, ck, [])]) L.length la an v S'
theorem mSum_app (l : List mP) (x : mP) : mSum (l ++ [x]) = mSum l + x.2.length := by
  induction l with
  | nil => simp [mSum]
  | cons y l ih => simp only [List.cons_append, mSum, ih]; omega
theorem mSum_le {l : List mP} (h : ∀ i, i < l.length → (l.getD i p0).2.length ≤ 600) : mSum l ≤ 600 * l.length := by
  induction l with
  | nil => simp [mSum]
  | cons y l ih =>
    have h1 := h 0 (by simp)
    have h2 := ih (fun i hi => h (i + 1) (by simp; omega))
    simp only [mSum, List.length_cons]
    have h3 : (y :: l).getD 0 p0 = y := rfl
    rw [h3] at h1
    omega
theorem take_s {α : Type} {l : List α} {i : Nat} (h : i < l.length) (d : α) : l.take (i + 1) = l.take i ++ [l.getD i d] := by
  rw [List.take_succ, getD_some h d]; rfl
theorem any_app1 {α : Type} (f : α → Bool) (l : List α) (x : α) : (l ++ [x]).any f = (l.any f || f x) := by simp
theorem any_at {α : Type} {f : α → Bool} {l : List α} {i : Nat} (h : i < l.length) (d : α) (g : f (l.getD i d) = true) : l.any f = true := List.any_eq_true.mpr ⟨l.getD i d, List.mem_of_getElem? (getD_some h d), g⟩
theorem any_no {α : Type} {f : α → Bool} {l : List α} {i : Nat} (h : i < l.length) (d : α) (g : l.any f = false) : f (l.getD i d) = false := by
  cases hx : f (l.getD i d) with
  | false => rfl
  | true => rw [any_at h d hx] at g; exact absurd g (by decide)
theorem er_getD {α : Type} {l : List α} {k q : Nat} (d : α) : (l.eraseIdx k).getD q d = l.getD (if q < k then q else q + 1) d := by
  simp only [List.getD_eq_getElem?_getD, List.getElem?_eraseIdx]
  split <;> rfl
theorem gD_mem {α : Type} {l : List α} {i : Nat} (h : i < l.length) (d : α) : l.getD i d ∈ l := List.mem_of_getElem? (getD_some h d)
theorem goes_MI {S S1 : tw_S} {K : kN} {tp ot : List Nat} {fr : List (List Nat)} {T : Nat → Int32} {hl : List mE} {ck wh dr la an : Nat} (h : MI S K tp ot fr T hl ck wh dr la an) (hw : ∀ e ∈ hl, eW e) {k : Nat} (hk : k < hl.length) (f : mHf S1 S) (g : ∀ q, q < 3 → rE S1 q S (if k ≤ q ∧ q + 1 < hl.length then q + 1 else q)) : MI (tw_uI S1 114 34 (nI (hl.length - 1))) K tp ot fr T (hl.eraseIdx k) ck wh dr la an := by
  have h3 := h.2.2.2.2.2.1.1
  have hl1 : (hl.eraseIdx k).length = hl.length - 1 := List.length_eraseIdx_of_lt hk
  refine MI_mHf h (mHf_34 f) (eP_mHp (by omega) (by rw [hl1]; rfl) (fun q hq => ?_))
  rw [hl1] at hq
  have h4 := g q (by omega)
  rw [er_getD]
  by_cases hqk : q < k
  · rw [if_neg (by omega)] at h4
    rw [if_pos hqk]
    exact eP_rE (mHp_eP h.2.2.2.2.2.1 (by omega)) h4 (hw _ (gD_mem (by omega) d0))
  · rw [if_pos (by omega)] at h4
    rw [if_neg hqk]
    exact eP_rE (mHp_eP h.2.2.2.2.2.1 (by omega)) h4 (hw _ (gD_mem (by omega) d0))
theorem rE_o {S' S : tw_S} {q : Nat} (h : ∀ r, 127 ≤ r → r ≤ 133 → ∀ j, (r = 130 → 600 * q ≤ j → j < 600 * q + 600 → tw_A S' r j = tw_A S r j) ∧ ((r = 132 ∨ r = 133) → 100 * q ≤ j → j < 100 * q + 100 → tw_A S' r j = tw_A S r j) ∧ (r ≠ 130 → r ≠ 132 → r ≠ 133 → j = q → tw_A S' r j = tw_A S r j)) : rE S' q S q :=
  ⟨(h 127 (by decide) (by decide) q).2.2 (by decide) (by decide) (by decide) rfl, (h 128 (by decide) (by decide) q).2.2 (by decide) (by decide) (by decide) rfl, (h 129 (by decide) (by decide) q).2.2 (by decide) (by decide) (by decide) rfl, (h 131 (by decide) (by decide) q).2.2 (by decide) (by decide) (by decide) rfl, fun k hk => (h 130 (by decide) (by decide) _).1 rfl (by omega) (by omega), fun k hk => ⟨(h 132 (by decide) (by decide) _).2.1 (by decide) (by omega) (by omega), (h 133 (by decide) (by decide) _).2.1 (by decide) (by omega) (by omega)⟩⟩
/-- a new heap -/
theorem MI_new {S : tw_S} {K : kN} {tp ot : List Nat} {fr : List (List Nat)} {T : Nat → Int32} {hl : List mE} {ck wh dr la an : Nat} {z t : Nat} (h : MI S K tp ot fr T hl ck wh dr la an) (hw : ∀ e ∈ hl, eW e) (h3 : hl.length < 3) : MI (tw_uI (tw_uA (tw_uA (tw_uA (tw_uA S 127 hl.length (nI z)) 128 hl.length (nI t)) 129 hl.length (nI ck)) 131 hl.length (nI 0)) 114 34 (nI (hl.length + 1))) K tp ot fr T (hl ++ [(z, t, ck, [])]) ck wh dr la an := by
  have hl1 : (hl ++ [((z, t, ck, []) : mE)]).length = hl.length + 1 := by rw [List.length_append]; rfl
  refine MI_mHf h (mHf_34 (mHf_uA (mHf_uA (mHf_uA (mHf_uA (mHf_rf S) (by decide)) (by decide)) (by decide)) (by decide))) (eP_mHp (by omega) (by rw [hl1]; rfl) (fun q hq => ?_))
  rw [hl1] at hq
  by_cases hql : q < hl.length
  · rw [show (hl ++ [((z, t, ck, []) : mE)]).getD q d0 = hl.getD q d0 by simp [List.getD_eq_getElem?_getD, List.getElem?_append_left hql]]
    refine eP_rE (mHp_eP h.2.2.2.2.2.1 hql) ?_ (hw _ (gD_mem hql d0))
    have hne : q ≠ hl.length := by omega
    refine ⟨?_, ?_, ?_, ?_, fun k hk => rfl, fun k hk => ⟨rfl, rfl⟩⟩ <;> simp [tw_A, tw_uA, tw_uI, hne]
  · have hqe : q = hl.length := by omega
    subst hqe
    rw [show (hl ++ [((z, t, ck, []) : mE)]).getD hl.length d0 = (z, t, ck, []) by simp [List.getD_eq_getElem?_getD]]
    refine ⟨?_, ?_, ?_, ?_, fun i hi => absurd hi (by simp)⟩ <;> simp [tw_A, tw_uA, tw_uI]
/-- a heap begun anew -/
theorem MI_re {S : tw_S} {K : kN} {tp ot : List Nat} {fr : List (List Nat)} {T : Nat → Int32} {hl : List mE} {ck wh dr la an : Nat} {z t k : Nat} (h : MI S K tp ot fr T hl ck wh dr la an) (hw : ∀ e ∈ hl, eW e) (hk : k < hl.length) (hz : (hl.getD k d0).1 = z) (ht : (hl.getD k d0).2.1 = t) : MI (tw_uA (tw_uA S 131 k (nI 0)) 129 k (nI ck)) K tp ot fr T (hl.set k (z, t, ck, [])) ck wh dr la an := by
  have hl1 : (hl.set k ((z, t, ck, []) : mE)).length = hl.length := List.length_set
  have h3 := h.2.2.2.2.2.1.1
  refine MI_mHf h (mHf_uA (mHf_uA (mHf_rf S) (by decide)) (by decide)) (eP_mHp (by omega) (by rw [hl1]; exact h.2.2.2.2.2.1.2.1) (fun q hq => ?_))
  rw [hl1] at hq
  have e0 := mHp_eP h.2.2.2.2.2.1 hq
  by_cases hqk : q = k
  · subst hqk
    rw [getD_set_same hk]
    refine ⟨?_, ?_, ?_, ?_, fun i hi => absurd hi (by simp)⟩
    · rw [← hz]; exact e0.1
    · rw [← ht]; exact e0.2.1
    · simp [tw_A, tw_uA]
    · simp [tw_A, tw_uA]
  · rw [getD_set_ne hqk]
    refine eP_rE e0 ?_ (hw _ (gD_mem hq d0))
    refine ⟨rfl, rfl, ?_, ?_, fun k hk => rfl, fun k hk => ⟨rfl, rfl⟩⟩ <;> simp [tw_A, tw_uA, hqk]
/-- a part laid down -/
theorem MI_add {S : tw_S} {K : kN} {tp ot : List Nat} {fr : List (List Nat)} {T : Nat → Int32} {hl : List mE} {ck wh dr la an : Nat} {q k : Nat} {ys : List Nat} {f : Nat → Int32} (h : MI S K tp ot fr T hl ck wh dr la an) (hw : ∀ e ∈ hl, eW e) (hk : k < hl.length) (hn : (hl.getD k d0).2.2.2.length + 1 < 100) (hq : q + ys.length ≤ 600) (hd : mMe q ys.length (hl.getD k d0).2.2.2 = false) (f1 : ∀ j, j < ys.length → f (600 * k + q + j) = nI (ys.getD j 0)) (f2 : ∀ x, x < 600 * k + q ∨ 600 * k + q + ys.length ≤ x → f x = tw_A S 130 x) : MI (tw_wA (tw_uA (tw_uA (tw_uA S 132 (100 * k + (hl.getD k d0).2.2.2.length) (nI q)) 133 (100 * k + (hl.getD k d0).2.2.2.length) (nI ys.length)) 131 k (nI ((hl.getD k d0).2.2.2.length + 1))) 130 f) K tp ot fr T (hl.set k (addP (hl.getD k d0) (q, ys))) ck wh dr la an := by
  generalize hE : hl.getD k d0 = E at hn hd ⊢
  have hl1 : (hl.set k (addP E (q, ys))).length = hl.length := List.length_set
  have h3 := h.2.2.2.2.2.1.1
  refine MI_mHf h (mHf_wA (mHf_uA (mHf_uA (mHf_uA (mHf_rf S) (by decide)) (by decide)) (by decide)) (by decide)) (eP_mHp (by omega) (by rw [hl1]; exact h.2.2.2.2.2.1.2.1) (fun r hr => ?_))
  rw [hl1] at hr
  have e0 := mHp_eP h.2.2.2.2.2.1 hr
  have w0 := hw _ (gD_mem hr d0)
  by_cases hqk : r = k
  · subst hqk
    rw [getD_set_same hr]
    rw [hE] at e0 w0
    refine ⟨e0.1, e0.2.1, e0.2.2.1, ?_, fun i hi => ?_⟩
    · simp [tw_A, tw_uA, tw_wA, addP]
    · have hi : i < E.2.2.2.length + 1 := by
        have h5 : (E.2.2.2 ++ [(q, ys)]).length = E.2.2.2.length + 1 := by rw [List.length_append]; rfl
        rw [← h5]; exact hi
      show tw_A _ 132 _ = nI ((E.2.2.2 ++ [(q, ys)]).getD i p0).1 ∧ tw_A _ 133 _ = nI ((E.2.2.2 ++ [(q, ys)]).getD i p0).2.length ∧ ∀ j, j < ((E.2.2.2 ++ [(q, ys)]).getD i p0).2.length → f (600 * r + ((E.2.2.2 ++ [(q, ys)]).getD i p0).1 + j) = nI (((E.2.2.2 ++ [(q, ys)]).getD i p0).2.getD j 0)
      by_cases hin : i < E.2.2.2.length
      · rw [show (E.2.2.2 ++ [(q, ys)]).getD i p0 = E.2.2.2.getD i p0 by simp only [List.getD_eq_getElem?_getD, List.getElem?_append_left hin]]
        obtain ⟨g1, g2, g3⟩ := e0.2.2.2.2 i hin
        have hx : 100 * r + i ≠ 100 * r + E.2.2.2.length := by omega
        refine ⟨?_, ?_, fun j hj => ?_⟩
        · rw [← g1]; simp [tw_A, tw_uA, tw_wA, hin, Nat.ne_of_lt hin]
        · rw [← g2]; simp [tw_A, tw_uA, tw_wA, hin, Nat.ne_of_lt hin]
        · have hno := any_no hin p0 hd
          have hno := of_decide_eq_false hno
          have hw2 := w0.2 i hin
          rw [f2 _ (by omega)]
          exact g3 j hj
      · have hie : i = E.2.2.2.length := by omega
        subst hie
        rw [show (E.2.2.2 ++ [(q, ys)]).getD E.2.2.2.length p0 = (q, ys) by simp [List.getD_eq_getElem?_getD]]
        refine ⟨?_, ?_, fun j hj => f1 j hj⟩
        · simp [tw_A, tw_uA, tw_wA]
        · simp [tw_A, tw_uA, tw_wA]
  · rw [getD_set_ne hqk]
    refine eP_rE e0 (rE_o (fun s h1 h2 j => ⟨fun hs h4 h5 => ?_, fun hs h4 h5 => ?_, fun g1 g2 g3 hj => ?_⟩)) w0
    · subst hs
      exact f2 j (by omega)
    · rcases hs with rfl | rfl
      · have hne : j ≠ 100 * k + E.2.2.2.length := by omega
        simp [tw_A, tw_uA, tw_wA, hne]
      · have hne : j ≠ 100 * k + E.2.2.2.length := by omega
        simp [tw_A, tw_uA, tw_wA, hne]
    · subst hj
      simp [tw_A, tw_uA, tw_wA, g1, g2, g3, hqk]
