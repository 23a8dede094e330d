/-! an object that hears the frames: which parts it has heard, whether the other frame -/
def OS (S : tw_S) (K : kN) (tp : List Nat) (fq : List (List Nat)) (n : Nat) (RV : (Nat → cH) → (Nat → Bool) → Bool → Prop) (FP : List Nat → Prop) (dd : Bool) (h : Nat → Bool) (x : Bool) : Prop := ∃ (ot : List Nat) (T : Nat → Int32) (c : Nat → cH) (wh dr la an : Nat), CI S K tp ot fq T c 0 wh dr la an ∧ RV c h x ∧ (dd = true → dr = 0) ∧ ((wh = 0 ∧ ∃ k, k < n ∧ h k = false) ∨ (wh = 1 ∧ (∀ k, k < n → h k = true) ∧ FP ot))
theorem wf_fb {G : tw_G} {S : tw_S} {K : kN} {tp ot : List Nat} {fr : List (List Nat)} {T : Nat → Int32} {c : Nat → cH} {ck wh dr la an : Nat} (hG : tw_cG G) (h : tw_wf G S) (hC : CI S K tp ot fr T c ck wh dr la an) : ∀ k, k < fr.length → (∀ x ∈ fr.getD k [], x < 256) ∧ (fr.getD k []).length ≤ 120 := by
  intro k hk
  have hF := hC.2.2.2.1
  have h40 : fr.length ≤ 40 := hF.1
  have hr := h (34 + 2 * k) (hG _ (by omega)) (by unfold tw_isRow; simp; omega)
  rw [hF.2.2 k hk] at hr
  have hc : tw_cap (34 + 2 * k) = 120 := by unfold tw_cap; rw [if_neg (by omega), if_neg (by omega)]
  rw [hc] at hr
  exact ⟨hr.2, hr.1⟩
section OSS
variable {K : kN} {fr fq : List (List Nat)} {z n : Nat} {RV : (Nat → cH) → (Nat → Bool) → Bool → Prop} {FP : List Nat → Prop} {S S' : tw_S} {tp ot : List Nat} {T : Nat → Int32} {c : Nat → cH} {wh dr la an k : Nat} {h : Nat → Bool} {x dd : Bool} {v : Int32}
theorem OS_new (M : MD K fr z n RV FP) (hz : z ≤ 640) (hk : k < n) (hkf : fq.getD k [] = fr.getD k []) (hkl : k < fq.length) (hh : h k = false) (hR : RV c h x) (hd : dd = true → dr = 0) (hw : (wh = 0 ∧ ∃ k, k < n ∧ h k = false) ∨ (wh = 1 ∧ (∀ k, k < n → h k = true) ∧ FP ot))
    (hp : if k < fq.length then v = nI (listenP K (fq.getD k []) 0 c).1 ∧ CI S' K tp (oSel (listenP K (fq.getD k []) 0 c).2.2.2.2 ot) fq T ((listenP K (fq.getD k []) 0 c).2.2.2.1) 0 (wh + (if (listenP K (fq.getD k []) 0 c).1 = 2 then 1 else 0)) (dr + (if (listenP K (fq.getD k []) 0 c).1 = 0 then 1 else 0)) (la + (listenP K (fq.getD k []) 0 c).2.1) (an + (listenP K (fq.getD k []) 0 c).2.2.1) else v = -1 ∧ S = S') : OS S' K tp fq n RV FP dd (upH h k) x ∧ ((v = nI 1 ∧ ∃ k', k' < n ∧ upH h k k' = false) ∨ (v = nI 2 ∧ ∀ k', k' < n → upH h k k' = true)) := by
  rw [if_pos hkl, hkf] at hp
  have hw0 : wh = 0 := by
    rcases hw with hw | hw
    · exact hw.1
    · rw [hw.2.1 k hk] at hh; cases hh
  obtain ⟨c', r1, r2⟩ := M.2.1 c h x k hR hk hh
  rcases r2 with ⟨e, hna⟩ | ⟨F, e, hF, ha⟩
  · rw [e] at hp
    exact ⟨⟨ot, T, c', wh, dr, la, an, hp.2, r1, hd, Or.inl ⟨hw0, hna⟩⟩, Or.inl ⟨hp.1, hna⟩⟩
  · rw [e] at hp
    have hl := M.2.2.2.2.1 F hF
    have hC : CI S' K tp (F.take 640) fq T c' 0 (wh + 1) dr la an := hp.2
    rw [List.take_of_length_le (by omega), hw0] at hC
    exact ⟨⟨F, T, c', 1, dr, la, an, hC, r1, hd, Or.inr ⟨rfl, ha, hF⟩⟩, Or.inr ⟨hp.1, ha⟩⟩
theorem OS_old (M : MD K fr z n RV FP) (hk : k < n) (hkf : fq.getD k [] = fr.getD k []) (hkl : k < fq.length) (hh : h k = true) (hna : ∃ k', k' < n ∧ h k' = false) (hR : RV c h x) (hw : (wh = 0 ∧ ∃ k, k < n ∧ h k = false) ∨ (wh = 1 ∧ (∀ k, k < n → h k = true) ∧ FP ot))
    (hp : if k < fq.length then v = nI (listenP K (fq.getD k []) 0 c).1 ∧ CI S' K tp (oSel (listenP K (fq.getD k []) 0 c).2.2.2.2 ot) fq T ((listenP K (fq.getD k []) 0 c).2.2.2.1) 0 (wh + (if (listenP K (fq.getD k []) 0 c).1 = 2 then 1 else 0)) (dr + (if (listenP K (fq.getD k []) 0 c).1 = 0 then 1 else 0)) (la + (listenP K (fq.getD k []) 0 c).2.1) (an + (listenP K (fq.getD k []) 0 c).2.2.1) else v = -1 ∧ S = S') : OS S' K tp fq n RV FP false h x ∧ v = nI 0 := by
  rw [if_pos hkl, hkf, M.1 c h x k hR hk hh hna] at hp
  exact ⟨⟨ot, T, c, wh, dr + 1, la, an, hp.2, hR, (fun e => by cases e), hw⟩, hp.1⟩
theorem OS_oth (M : MD K fr z n RV FP) (hn1 : 1 < n) (hkf : fq.getD n [] = W13) (hkl : n < fq.length) (hR : RV c h x) (hw : (wh = 0 ∧ ∃ k, k < n ∧ h k = false) ∨ (wh = 1 ∧ (∀ k, k < n → h k = true) ∧ FP ot))
    (hp : if n < fq.length then v = nI (listenP K (fq.getD n []) 0 c).1 ∧ CI S' K tp (oSel (listenP K (fq.getD n []) 0 c).2.2.2.2 ot) fq T ((listenP K (fq.getD n []) 0 c).2.2.2.1) 0 (wh + (if (listenP K (fq.getD n []) 0 c).1 = 2 then 1 else 0)) (dr + (if (listenP K (fq.getD n []) 0 c).1 = 0 then 1 else 0)) (la + (listenP K (fq.getD n []) 0 c).2.1) (an + (listenP K (fq.getD n []) 0 c).2.2.1) else v = -1 ∧ S = S') : OS S' K tp fq n RV FP false h true ∧ v = nI (if x = true then 0 else 1) := by
  rw [if_pos hkl, hkf] at hp
  have hm := M.2.2.1 hn1 c h
  cases x with
  | true =>
    rw [hm.1 hR] at hp
    exact ⟨⟨ot, T, c, wh, dr + 1, la, an, hp.2, hR, (fun e => by cases e), hw⟩, hp.1⟩
  | false =>
    obtain ⟨c', r1, r2⟩ := hm.2 hR
    rw [r2] at hp
    exact ⟨⟨ot, T, c', wh, dr, la, an, hp.2, r1, (fun e => by cases e), hw⟩, hp.1⟩
/-- an object that has heard all -/
theorem OS_all (hO : OS S K tp fq n RV FP dd h x) (ha : ∀ k, k < n → h k = true) : ∃ (ot : List Nat) (T : Nat → Int32) (c : Nat → cH) (dr la an : Nat), CI S K tp ot fq T c 0 1 dr la an ∧ RV c h x ∧ (dd = true → dr = 0) ∧ FP ot := by
  obtain ⟨ot, T, c, wh, dr, la, an, hC, hR, hd, hw⟩ := hO
  rcases hw with ⟨-, k, a, b⟩ | ⟨rfl, -, hF⟩
  · rw [ha k a] at b; cases b
  · exact ⟨ot, T, c, dr, la, an, hC, hR, hd, hF⟩
end OSS
/-- how many are not heard yet -/
def lfN (n : Nat) (h : Nat → Bool) : Nat := sumN (fun k => if h k = true then 0 else 1) n
theorem lfN_0 {n : Nat} {h : Nat → Bool} : lfN n h = 0 ↔ ∀ k, k < n → h k = true := by
  unfold lfN
  induction n with
  | zero => exact ⟨fun _ k hk => absurd hk (Nat.not_lt_zero _), fun _ => rfl⟩
  | succ n ih =>
    simp only [sumN]
    constructor
    · intro e k hk
      by_cases hkn : k = n
      · cases hc : h k with
        | true => rfl
        | false => rw [← hkn, hc] at e; simp at e
      · exact ih.mp (by omega) k (by omega)
    · intro a
      rw [ih.mpr (fun k hk => a k (by omega)), a n (by omega)]; rfl
theorem lfN_up {n k : Nat} {h : Nat → Bool} (hk : k < n) (hh : h k = false) : lfN n (upH h k) + 1 = lfN n h := by
  have := sumN_up (g := fun k => if h k = true then 0 else 1) (g' := fun j => if upH h k j = true then 0 else 1) hk (fun i hi => by simp only [upH_n hi])
  simp only [upH_s, hh, if_true, Bool.false_eq_true, if_false] at this
  unfold lfN
  omega
theorem lfN_no {n : Nat} {h : Nat → Bool} (he : ¬ lfN n h = 0) : ∃ k, k < n ∧ h k = false := by
  rcases Classical.em (∃ k, k < n ∧ h k = false) with g | g
  · exact g
  · refine absurd (lfN_0.mpr (fun k hk => ?_)) he
    cases hc : h k with
    | true => rfl
    | false => exact absurd ⟨k, hk, hc⟩ g
theorem lfN_some {n k : Nat} {h : Nat → Bool} (hk : k < n) (hh : h k = false) : ¬ lfN n h = 0 := fun e => by
  rw [lfN_0.mp e k hk] at hh; cases hh
theorem lfN_f (n : Nat) : lfN n (fun _ => false) = n := by
  unfold lfN
  induction n with
  | zero => rfl
  | succ n ih => simp only [sumN]; rw [ih]; rfl
theorem lfN_le (n : Nat) (h : Nat → Bool) : lfN n h ≤ n := sumN_1 (fun i _ => by split <;> omega)
/-- those before k -/
def bf (k : Nat) : Nat → Bool := fun j => decide (j < k)
theorem bf_up (k : Nat) : upH (bf k) k = bf (k + 1) := by
  funext j
  unfold upH bf
  by_cases h : j = k
  · rw [if_pos h, h]; simp
  · rw [if_neg h]
    by_cases h2 : j < k
    · rw [decide_eq_true h2, decide_eq_true (by omega)]
    · rw [decide_eq_false h2, decide_eq_false (by omega)]
/-- the law's array says which were heard -/
def HD (f : Nat → Int32) (h : Nat → Bool) : Prop := ∀ j, j < 64 → f j = bI (h j)
theorem HD_up {f : Nat → Int32} {h : Nat → Bool} {i : Nat} (H : HD f h) : HD (upd f i (nI 1)) (upH h i) := fun j hj => by
  unfold upd upH
  by_cases e : j = i
  · subst e; simp; rfl
  · simp only [e, if_false]; exact H j hj
theorem HD_at {f : Nat → Int32} {h : Nat → Bool} {i : Nat} (H : HD f h) (hh : h i = true) : HD (upd f i (nI 1)) h := fun j hj => by
  unfold upd
  by_cases e : j = i
  · subst e; simp [hh]; rfl
  · simp only [e, if_false]; exact H j hj
