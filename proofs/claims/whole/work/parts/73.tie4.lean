theorem cutD_b {bs : List Nat} (hb : ∀ x ∈ bs, x < 256) {a n x : Nat} (h : x ∈ cutD bs a n) : x < 256 := by
  unfold cutD at h
  obtain ⟨i, -, rfl⟩ := List.mem_map.mp h
  exact gD_lt hb _
theorem uAd_b {K : kN} {m w cx : Nat} {bs : List Nat} {a x : Nat} (hb : ∀ x ∈ bs, x < 256) (h : x ∈ uAd K m w cx bs a) : x < 256 := by
  have hr : ∀ n, x ∈ List.replicate n 0 → x < 256 := fun n h => by rw [(List.mem_replicate.mp h).2]; decide
  unfold uAd at h
  split at h
  · rcases List.mem_append.mp h with h | h <;> exact be_lt h
  · split at h
    · rcases List.mem_append.mp h with h | h
      · rcases List.mem_append.mp h with h | h
        · simp only [List.mem_cons, List.not_mem_nil, or_false] at h
          rcases h with rfl | rfl <;> decide
        · exact hr _ h
      · rw [List.mem_singleton.mp h]; exact gD_lt hb _
    · split at h
      · rcases List.mem_append.mp h with h | h
        · rcases List.mem_append.mp h with h | h
          · simp only [List.mem_cons, List.not_mem_nil, or_false] at h
            rcases h with rfl | rfl
            · decide
            · exact gD_lt hb _
          · exact hr _ h
        · exact be_lt h
      · split at h
        · exact hr _ h
        · rcases List.mem_append.mp h with h | h <;> exact be_lt h
theorem uPk_b {K : kN} {bs : List Nat} {s : Nat} {o : Option Nat} (hb : ∀ x ∈ bs, x < 256) : ∀ x ∈ uPk K bs s o, x < 256 := by
  intro x h
  unfold uPk at h
  rcases List.mem_append.mp h with h | h
  · unfold uHd at h
    dsimp only at h
    simp only [List.mem_append] at h
    rcases h with h | h | h | h | h | h | h
    · exact be_lt h
    · exact be_lt h
    · rw [List.mem_singleton.mp h]
      split
      · decide
      · exact gD_lt hb _
    · rw [List.mem_singleton.mp h]
      split
      · exact gD_lt hb _
      · split
        · decide
        · split <;> decide
    · exact uAd_b hb h
    · exact uAd_b hb h
    · split at h
      · rcases List.mem_append.mp h with h | h
        · exact be_lt h
        · rcases List.mem_append.mp h with h | h <;> exact be_lt h
      · exact absurd h (by simp)
  · exact cutD_b hb h
def NB (c : Nat → cH) : Prop := ∀ i, i < 3 → hNp (c i) < 2 ^ 19 ∧ hNb (c i) < 2 ^ 19
theorem NB_set {c : Nat → cH} {j : Nat} {e : cH} (h : NB c) (he : hNp e < 2 ^ 19 ∧ hNb e < 2 ^ 19) : NB (setH c j e) := fun i hi => by
  by_cases hx : i = j
  · rw [hx, setH_same]; exact he
  · rw [setH_ne hx]; exact h i hi
theorem NB_drop {ck : Nat} {c : Nat → cH} (h : NB c) : NB (fun j => dropH ck (c j)) := fun i hi => by
  show hNp (dropH ck (c i)) < 2 ^ 19 ∧ hNb (dropH ck (c i)) < 2 ^ 19
  unfold dropH
  split
  · exact h i hi
  · exact h i hi
/-- a class's end and the model's: the same -/
def TIE (K : kN) (tp ot : List Nat) (fr : List (List Nat)) (T : Nat → Int32) (ck wh dr la an : Nat) (r l a : Nat) (c : Nat → cH) (o : Option (List Nat)) (v : Int32) (S' : tw_S) : Prop := ∃ hl', HR ck c hl' ∧ NB c ∧ v = nI r ∧ MI S' K tp (oSel o ot) fr T hl' ck (wh + (if r = 2 then 1 else 0)) (dr + (if r = 0 then 1 else 0)) (la + l) (an + a)
section TI
variable {K : kN} {tp ot : List Nat} {fr : List (List Nat)} {T : Nat → Int32} {ck wh dr z t q s la an : Nat} {ys : List Nat} {c : Nat → cH} {v : Int32} {S' : tw_S}
theorem EQ_keep {e : cH} {m : mE} (h : EQ ck e m) (hz : m.1 = z) (hq : q % 8 = 0) (hn : 1 ≤ (ys.drop s).length) (hqz : q + (ys.drop s).length ≤ z) (hb : ∀ x ∈ ys, x < 256) (hm : mMe q (ys.drop s).length m.2.2.2 = false) : EQ ck (keepH e q ys s) (addP m (q, ys.drop s)) := by
  have hl : (ys.drop s).length = ys.length - s := List.length_drop
  obtain ⟨h1, h2, h3, h4, h5, h6, h7, h8, h9⟩ := h
  subst hz
  refine ⟨h1, h2, h3, h4, ?_, ?_, ?_, h8, ?_⟩
  · show hNp e + 1 = (m.2.2.2 ++ [(q, ys.drop s)]).length
    rw [h5, List.length_append]; rfl
  · show hNb e + (ys.length - s) = mSum (m.2.2.2 ++ [(q, ys.drop s)])
    rw [h6, mSum_app, ← hl]
  · show (pcs (hXs e) q ys s (ys.length - s)).length = m.1
    rw [pcs_len, h7]
  · exact PR_add h9 h7 hq hn hqz hb hm
theorem tie_C {L : List mE} {i j a : Nat} {e : cH} (hNB : NB c) (he : EQ ck e (L.getD i d0)) (hz : (L.getD i d0).1 = z) (hq : q % 8 = 0) (hn : 1 ≤ (ys.drop s).length) (hqz : q + (ys.drop s).length ≤ z) (hb : ∀ x ∈ ys, x < 256) (hm : mMe q (ys.drop s).length (L.getD i d0).2.2.2 = false) (Hk : ∀ e' m', EQ ck e' m' → m'.1 = (L.getD i d0).1 → m'.2.1 = (L.getD i d0).2.1 → HR ck (setH c j e') (L.set i m')) (Hg : ∀ e', hTh e' = false → HR ck (setH c j e') (L.eraseIdx i)) (h : PostC K tp ot fr T ck wh dr z t q (ys.drop s) L i la (an + a) v S') : TIE K tp ot fr T ck wh dr la an (finP a j c (keepH e q ys s)).1 0 (finP a j c (keepH e q ys s)).2.1 (finP a j c (keepH e q ys s)).2.2.1 (finP a j c (keepH e q ys s)).2.2.2 v S' := by
  have hE := EQ_keep he hz hq hn hqz hb hm
  have hs : mSum ((L.getD i d0).2.2.2 ++ [(q, ys.drop s)]) ≤ z := by rw [← hz]; exact PR_sum hE.2.2.2.2.2.2.2.2
  have hnp : hNp (keepH e q ys s) < 2 ^ 19 ∧ hNb (keepH e q ys s) < 2 ^ 19 := by
    have l1 := PR_len hE.2.2.2.2.2.2.2.2 hE.2.2.2.2.2.2.2.1.2.1
    have l2 := PR_sum hE.2.2.2.2.2.2.2.2
    have l3 := hE.2.2.2.2.2.2.2.1.2.1
    rw [hE.2.2.2.2.1, hE.2.2.2.2.2.1]
    omega
  have hw : wholeB (keepH e q ys s) = decide (mSum ((L.getD i d0).2.2.2 ++ [(q, ys.drop s)]) = z) := by
    have h1 : hNb (keepH e q ys s) = mSum ((L.getD i d0).2.2.2 ++ [(q, ys.drop s)]) := hE.2.2.2.2.2.1
    have h2 : hZ (keepH e q ys s) = z := hE.2.1.trans hz
    unfold wholeB
    rw [h1, h2]
    exact decide_eq_decide.mpr ⟨fun g => g.2, fun g => ⟨hE.1, g⟩⟩
  unfold PostC at h
  by_cases hc : mSum ((L.getD i d0).2.2.2 ++ [(q, ys.drop s)]) = z
  · rw [if_neg (by omega)] at h
    rw [finP, if_pos (by rw [hw]; exact decide_eq_true hc)]
    have hxl : (hXs (keepH e q ys s)).length = z := hE.2.2.2.2.2.2.1.trans hz
    refine ⟨(L.set i (addP (L.getD i d0) (q, ys.drop s))).eraseIdx i, ?_, NB_set hNB hnp, h.1, ?_⟩
    · rw [show L.eraseIdx i = (L.set i (addP (L.getD i d0) (q, ys.drop s))).eraseIdx i from (List.eraseIdx_set_eq ..).symm] at Hg
      exact Hg (endH (keepH e q ys s)) rfl
    · have h3 := h.2 (hXs (keepH e q ys s)) hxl (PR_CV hE.2.2.2.2.2.2.2.2 (by rw [← hz] at hc; exact hc) hE.2.2.2.2.2.2.1)
      have hz6 := he.2.2.2.2.2.2.2.1.2.1
      have e4 : oSel (some (hXs (keepH e q ys s))) ot = hXs (keepH e q ys s) := List.take_of_length_le (by omega)
      show MI S' K tp (oSel (some (hXs (keepH e q ys s))) ot) fr T _ ck (wh + 1) (dr + 0) (la + 0) (an + a)
      rw [e4]
      exact h3
  · rw [if_pos (by omega)] at h
    rw [finP, if_neg (by rw [hw]; exact fun g => hc (of_decide_eq_true g))]
    exact ⟨_, Hk _ _ hE rfl rfl, NB_set hNB hnp, h.1, h.2⟩
theorem EQ_new (hz4 : 40 ≤ z) (hz6 : z ≤ 600) (ht : t < 65536) : EQ ck (newH z t ck) (z, t, ck, []) := ⟨rfl, rfl, rfl, rfl, rfl, rfl, List.length_replicate, ⟨hz4, hz6, ht, Nat.le_refl ck⟩, PR_new⟩
theorem HR_uniq {hl : List mE} (h : HR ck c hl) {i j : Nat} (hi : i < hl.length) (hj : j < 3) (he : EQ ck (c j) (hl.getD i d0)) {j' : Nat} (hj' : j' < 3) (ho : isOfB (c j') (hl.getD i d0).1 (hl.getD i d0).2.1 = true) : j' = j := by
  obtain ⟨pl, h1, h2, h3, h4, h5⟩ := h
  obtain ⟨k, hk, e1⟩ := h5 j hj he.1
  have g := h4 k hk
  rw [e1] at g
  have hki := h3 k i hk hi (g.2.1.symm.trans he.2.1) (g.2.2.1.symm.trans he.2.2.1)
  obtain ⟨o1, o2, o3⟩ := of_decide_eq_true ho
  obtain ⟨k', hk', e2⟩ := h5 j' hj' o1
  have g' := h4 k' hk'
  rw [e2] at g'
  have hki' := h3 k' i hk' hi (g'.2.1.symm.trans o2) (g'.2.2.1.symm.trans o3)
  rw [← e1, ← e2, hki, hki']
theorem idx_of {hl : List mE} (h : HR ck c hl) {i j : Nat} (hi : i < hl.length) (hj : j < 3) (he : EQ ck (c j) (hl.getD i d0)) : idxH (hl.getD i d0).1 (hl.getD i d0).2.1 c = j ∧ isOfB (c j) (hl.getD i d0).1 (hl.getD i d0).2.1 = true := by
  have ho : isOfB (c j) (hl.getD i d0).1 (hl.getD i d0).2.1 = true := decide_eq_true ⟨he.1, he.2.1, he.2.2.1⟩
  refine ⟨?_, ho⟩
  have u : ∀ j', j' < 3 → isOfB (c j') (hl.getD i d0).1 (hl.getD i d0).2.1 = true → j' = j := fun j' hj' g => HR_uniq h hi hj he hj' g
  unfold idxH
  by_cases g0 : isOfB (c 0) (hl.getD i d0).1 (hl.getD i d0).2.1 = true
  · rw [if_pos g0]; exact u 0 (by decide) g0
  · rw [if_neg g0]
    by_cases g1 : isOfB (c 1) (hl.getD i d0).1 (hl.getD i d0).2.1 = true
    · rw [if_pos g1]; exact u 1 (by decide) g1
    · rw [if_neg g1]
      by_cases g2 : isOfB (c 2) (hl.getD i d0).1 (hl.getD i d0).2.1 = true
      · rw [if_pos g2]; exact u 2 (by decide) g2
      · exfalso
        rcases (show j = 0 ∨ j = 1 ∨ j = 2 by omega) with rfl | rfl | rfl
        · exact g0 ho
        · exact g1 ho
        · exact g2 ho
theorem fI_lt {L : List mE} : fI z t L < L.length → mMt z t (L.getD (fI z t L) d0) = true := by
  induction L with
  | nil => intro h; exact absurd h (by simp)
  | cons m l ih =>
    intro h
    by_cases hm : mMt z t m = true
    · rw [fI, if_pos hm]; exact hm
    · rw [fI, if_neg hm] at h ⊢
      exact ih (by simpa using h)
theorem fI_ge {L : List mE} : ¬ fI z t L < L.length → fI z t L = L.length ∧ ∀ k, k < L.length → mMt z t (L.getD k d0) = false := by
  induction L with
  | nil => intro _; exact ⟨rfl, fun k hk => absurd hk (by simp)⟩
  | cons m l ih =>
    intro h
    by_cases hm : mMt z t m = true
    · rw [fI, if_pos hm] at h
      exact absurd (by simp) h
    · rw [fI, if_neg hm] at h ⊢
      obtain ⟨g1, g2⟩ := ih (by simpa using h)
      refine ⟨by rw [g1]; rfl, fun k hk => ?_⟩
      cases k with
      | zero => exact Bool.eq_false_iff.mpr hm
      | succ k => exact g2 k (by simpa using hk)
theorem HR_off {hl : List mE} (h : HR ck c hl) {j : Nat} (hf : hTh (c j) = false) {e : cH} (he : hTh e = false) : HR ck (setH c j e) hl := by
  obtain ⟨pl, h1, h2, h3, h4, h5⟩ := h
  have nj : ∀ k, k < hl.length → pl k ≠ j := fun k hk e2 => by
    have := (h4 k hk).1
    rw [e2, hf] at this
    exact absurd this (by decide)
  refine ⟨pl, h1, h2, h3, fun k hk => by rw [setH_ne (nj k hk)]; exact h4 k hk, fun j' hj' ht => ?_⟩
  by_cases g : j' = j
  · rw [g, setH_same, he] at ht; exact absurd ht (by decide)
  · rw [setH_ne g] at ht; exact h5 j' hj' ht
theorem tie_A {L : List mE} (hNB : NB c) (hR : HR ck c L) (hz4 : 40 ≤ z) (hz6 : z ≤ 600) (ht : t < 65536) (hq : q % 8 = 0) (hn : 1 ≤ (ys.drop s).length) (hqz : q + (ys.drop s).length ≤ z) (hb : ∀ x ∈ ys, x < 256) (h : PostA K tp ot fr T ck wh dr z t q (ys.drop s) L la an v S') : TIE K tp ot fr T ck wh dr la an (partP ck c z t q ys s).1 0 (partP ck c z t q ys s).2.1 (partP ck c z t q ys s).2.2.1 (partP ck c z t q ys s).2.2.2 v S' := by
  have hl : (ys.drop s).length = ys.length - s := List.length_drop
  unfold PostA at h
  by_cases hc : fI z t L < L.length
  · rw [if_pos hc] at h
    obtain ⟨k1, k2⟩ := of_decide_eq_true (fI_lt hc)
    generalize hi : fI z t L = i at h hc k1 k2
    obtain ⟨j, hj, he, g1, g2, g3, g4⟩ := HR_go hR hc
    obtain ⟨i1, i2⟩ := idx_of hR hc hj he
    rw [k1, k2] at i1 i2
    have hsm : mSm q (ys.drop s).length (L.getD i d0).2.2.2 = decide (hLn (c j) (q / 8) = ys.length - s) := by rw [hl]; exact PR_same he.2.2.2.2.2.2.2.2 hq (by omega)
    have hme : mMe q (ys.drop s).length (L.getD i d0).2.2.2 = hitB (hLn (c j)) q (ys.length - s) := by rw [hl]; exact (PR_hit he.2.2.2.2.2.2.2.2 (by omega)).symm
    unfold PostB at h
    unfold partP
    rw [i1, if_pos i2]
    by_cases h1 : hLn (c j) (q / 8) = ys.length - s
    · rw [if_pos (by rw [hsm]; exact decide_eq_true h1)] at h
      rw [if_pos h1]
      exact ⟨L, hR, hNB, h⟩
    · rw [if_neg (by rw [hsm]; exact fun g => h1 (of_decide_eq_true g))] at h
      rw [if_neg h1]
      by_cases h2 : hitB (hLn (c j)) q (ys.length - s) = true
      · rw [if_pos (by rw [hme]; exact h2)] at h
        rw [if_pos h2]
        have gd : (L.set i (z, t, ck, [])).getD i d0 = (z, t, ck, []) := getD_set_same hc _ _
        have hE : EQ ck (newH z t ck) ((L.set i (z, t, ck, [])).getD i d0) := by rw [gd]; exact EQ_new hz4 hz6 ht
        refine tie_C (L := L.set i (z, t, ck, [])) (i := i) (j := j) (a := 1) hNB hE (by rw [gd]) hq hn hqz hb (by rw [gd]; rfl) (fun e' m' q1 q2 q3 => ?_) (fun e' q1 => ?_) h
        · rw [List.set_set]
          rw [gd] at q2 q3
          exact g3 e' m' q1 (q2.trans k1.symm) (q3.trans k2.symm)
        · rw [List.eraseIdx_set_eq]
          exact g4 e' q1
      · rw [if_neg (by rw [hme]; exact h2)] at h
        rw [if_neg h2]
        exact tie_C (L := L) (i := i) (j := j) (a := 0) hNB he k1 hq hn hqz hb (by rw [hme]; exact Bool.eq_false_iff.mpr h2) g3 g4 h
  · rw [if_neg hc] at h
    obtain ⟨-, hno⟩ := fI_ge hc
    have hof : ∀ j, j < 3 → isOfB (c j) z t = false := by
      intro j hj
      obtain ⟨pl, h1, h2, h3, h4, h5⟩ := hR
      refine decide_eq_false (fun g => ?_)
      obtain ⟨k, hk, e⟩ := h5 j hj g.1
      have q1 := h4 k hk
      rw [e] at q1
      exact of_decide_eq_false (hno k hk) ⟨q1.2.1.symm.trans g.2.1, q1.2.2.1.symm.trans g.2.2⟩
    have hidx : idxH z t c = if hTh (c 2) = false then 2 else if hTh (c 1) = false then 1 else 0 := by
      unfold idxH
      rw [if_neg (by rw [hof 0 (by decide)]; decide), if_neg (by rw [hof 1 (by decide)]; decide), if_neg (by rw [hof 2 (by decide)]; decide)]
    have hi3 : idxH z t c < 3 := by
      rw [hidx]
      repeat' split
      all_goals decide
    have hsum : sumN (fun j => if hTh (c j) = true then 1 else 0) 3 = L.length := (HR_sum (g := fun e => if hTh e = true then 1 else 0) (g' := fun _ => 1) (fun e m he => if_pos he.1) (fun e he => if_neg (by rw [he]; decide)) hR).trans (mSumW_len L)
    unfold partP
    rw [if_neg (by rw [hof _ hi3]; decide)]
    by_cases h3 : L.length = 3
    · rw [if_pos h3] at h
      rw [h3] at hsum
      have hall := sumN_all (g := fun j => if hTh (c j) = true then 1 else 0) (n := 3) (fun i _ => by split <;> omega) hsum _ hi3
      have hth : hTh (c (idxH z t c)) = true := by
        cases hq2 : hTh (c (idxH z t c)) with
        | true => rfl
        | false =>
          have hall : (if hTh (c (idxH z t c)) = true then 1 else 0) = 1 := hall
          rw [hq2] at hall
          exact absurd hall (by decide)
      rw [if_pos hth]
      exact ⟨L, hR, hNB, h⟩
    · rw [if_neg h3] at h
      have hth : hTh (c (idxH z t c)) = false := by
        cases hq2 : hTh (c (idxH z t c)) with
        | false => rfl
        | true =>
          exfalso
          apply h3
          rw [← hsum]
          rw [hidx] at hq2
          by_cases t2 : hTh (c 2) = false
          · rw [if_pos t2, t2] at hq2; exact absurd hq2 (by decide)
          · rw [if_neg t2] at hq2
            by_cases t1 : hTh (c 1) = false
            · rw [if_pos t1, t1] at hq2; exact absurd hq2 (by decide)
            · rw [if_neg t1] at hq2
              have t2 : hTh (c 2) = true := by cases hx : hTh (c 2) with | true => rfl | false => exact absurd hx t2
              have t1 : hTh (c 1) = true := by cases hx : hTh (c 1) with | true => rfl | false => exact absurd hx t1
              show ((0 + (if hTh (c 0) = true then 1 else 0)) + (if hTh (c 1) = true then 1 else 0)) + (if hTh (c 2) = true then 1 else 0) = 3
              rw [hq2, t1, t2]; rfl
      rw [if_neg (by rw [hth]; decide)]
      have hE := EQ_new (ck := ck) hz4 hz6 ht
      have gd : (L ++ [((z, t, ck, []) : mE)]).getD L.length d0 = (z, t, ck, []) := by simp [List.getD_eq_getElem?_getD]
      have hkey : ∀ k, k < L.length → ¬ ((L.getD k d0).1 = z ∧ (L.getD k d0).2.1 = t) := fun k hk => of_decide_eq_false (hno k hk)
      unfold PostB at h
      rw [gd, if_neg (show ¬ mSm q (ys.drop s).length [] = true from fun g => absurd (show false = true from g) (by decide)), if_neg (show ¬ mMe q (ys.drop s).length [] = true from fun g => absurd (show false = true from g) (by decide))] at h
      refine tie_C (L := L ++ [(z, t, ck, [])]) (i := L.length) (j := idxH z t c) (a := 0) hNB (by rw [gd]; exact hE) (by rw [gd]) hq hn hqz hb (by rw [gd]; rfl) (fun e' m' q1 q2 q3 => ?_) (fun e' q1 => ?_) h
      · rw [gd] at q2 q3
        rw [List.set_append_right _ _ (Nat.le_refl _), Nat.sub_self, List.set_cons_zero]
        exact HR_new hR hi3 hth q1 (fun k hk g => hkey k hk ⟨g.1.trans q2, g.2.trans q3⟩)
      · rw [List.eraseIdx_append_of_length_le (Nat.le_refl _), Nat.sub_self, List.eraseIdx_cons_zero, List.append_nil]
        exact HR_off hR hth q1
theorem tie_Q {hl : List mE} (hNB : NB c) (hR : HR ck c hl) (ht : t < 65536) (hq : q % 8 = 0) (hn : 1 ≤ (ys.drop s).length) (hb : ∀ x ∈ ys, x < 256) (h : PostQ K tp ot fr T ck wh dr z t q (ys.drop s) hl la an v S') : TIE K tp ot fr T ck wh dr la an (partL ck c z t q ys s).1 (partL ck c z t q ys s).2.1 (partL ck c z t q ys s).2.2.1 (partL ck c z t q ys s).2.2.2.1 (partL ck c z t q ys s).2.2.2.2 v S' := by
  have hl2 : (ys.drop s).length = ys.length - s := List.length_drop
  unfold PostQ at h
  unfold partL
  rw [hl2] at h
  by_cases ho : okPB z q (ys.length - s) = true
  · rw [if_pos ho] at h
    rw [if_pos ho]
    obtain ⟨o1, o2, o3, -⟩ := okPB_iff.mp ho
    obtain ⟨g1, g2⟩ := HR_late (Nat.le_refl _) hR
    rw [show hl.length - (mLt ck hl).length = lateN ck c by omega] at h
    obtain ⟨hl', r1, r4, r2, r3⟩ := tie_A (NB_drop hNB) g1 o1 o2 ht hq hn (by omega) hb h
    exact ⟨hl', r1, r4, r2, r3⟩
  · rw [if_neg ho] at h
    rw [if_neg ho]
    exact ⟨hl, hR, hNB, h⟩
/-- a frame heard by both -/
theorem tie_H {hl : List mE} {fs : List Nat} (hNB : NB c) (hR : HR ck c hl) (hb : ∀ x ∈ fs, x < 256) (h : PostH K tp ot fr T hl ck wh dr la an fs v S') : TIE K tp ot fr T ck wh dr la an (listenP K fs ck c).1 (listenP K fs ck c).2.1 (listenP K fs ck c).2.2.1 (listenP K fs ck c).2.2.2.1 (listenP K fs ck c).2.2.2.2 v S' := by
  have ht : tF fs < 65536 := nb_lt hb 2 2
  have hzl : zF fs < 2048 := Nat.mod_lt _ (by decide)
  unfold PostH at h
  unfold listenP
  by_cases h1 : fs.getD 0 0 / 32 = 3
  · rw [if_pos h1] at h
    rw [if_pos h1, allL]
    by_cases h2 : (uF K fs 0 none).1 = 0
    · rw [if_pos h2] at h
      rw [if_pos h2]
      have hle := uPk_le h2
      have e4 : oSel (some (uPk K fs 0 none)) ot = uPk K fs 0 none := List.take_of_length_le (by omega)
      refine ⟨hl, hR, hNB, h.1, ?_⟩
      show MI S' K tp (oSel (some (uPk K fs 0 none)) ot) fr T hl ck (wh + 1) (dr + 0) (la + 0) (an + 0)
      rw [e4]
      exact h.2
    · rw [if_neg h2] at h
      rw [if_neg h2]
      exact ⟨hl, hR, hNB, h⟩
  · rw [if_neg h1] at h
    rw [if_neg h1]
    by_cases h2 : fs.getD 0 0 / 8 = 24 ∧ 5 ≤ fs.length
    · rw [if_pos h2] at h
      rw [if_pos h2, firstL]
      rw [uF_d K (show 4 ≤ fs.length by omega), uPk_d] at h
      by_cases h3 : zF fs < 40
      · rw [if_neg (by omega)] at h
        rw [if_pos h3]
        exact ⟨hl, hR, hNB, h⟩
      · rw [if_neg h3]
        by_cases h4 : (uF K fs 4 (some (zF fs - 40))).1 = 0
        · rw [if_pos h4]
          have hQ : PostQ K tp ot fr T ck wh dr (zF fs) (tF fs) 0 ((uPk K fs 4 (some (zF fs - 40))).drop 0) hl la an v S' := by
            by_cases h5 : zF fs ≤ 600
            · rw [if_pos ⟨by omega, h5, h4⟩] at h
              exact h
            · rw [if_neg (fun g => h5 g.2.1)] at h
              unfold PostQ
              rw [if_neg (okPB_f (by omega))]
              exact h
          exact tie_Q hNB hR ht rfl (by have := (uPk_ge K fs 4 (some (zF fs - 40))).1; rw [List.drop_zero]; omega) (uPk_b hb) hQ
        · rw [if_neg (fun g => h4 g.2.2)] at h
          rw [if_neg h4]
          exact ⟨hl, hR, hNB, h⟩
    · rw [if_neg h2] at h
      rw [if_neg h2]
      by_cases h3 : fs.getD 0 0 / 8 = 28 ∧ 6 ≤ fs.length
      · rw [if_pos h3] at h
        rw [if_pos h3]
        exact tie_Q hNB hR ht (by omega) (by rw [List.length_drop]; omega) hb h
      · rw [if_neg h3] at h
        rw [if_neg h3]
        exact ⟨hl, hR, hNB, h⟩
end TI
