/-! what hearing answers, whichever way the packet was cut -/
/-- the frame of another packet that the law puts between -/
def W13 : List Nat := [224, 80, 0, 8, 5, 1, 2, 3, 4, 5, 6, 7, 8]
theorem W13_of (tp : List Nat) : tp.take 0 ++ be 3763339272 4 ++ be 21491745540 5 ++ be 84281096 4 = W13 := by
  rw [List.take_zero, List.nil_append]
  decide +kernel
theorem W13_l (K : kN) (c : Nat → cH) : listenP K W13 0 c = partL 0 c 80 8 40 W13 5 := by
  unfold listenP
  rw [if_neg (by decide), if_neg (by decide), if_pos (by decide), show zF W13 = 80 by decide +kernel, show tF W13 = 8 by decide +kernel, show 8 * W13.getD 4 0 = 40 by decide]
theorem W13_ok : okP 80 40 (W13.length - 5) := ⟨by decide, by decide, by decide, Or.inl (by decide)⟩
section OT
variable {z n : Nat} {q : Nat → Nat} {Y : Nat → List Nat} {s : Nat → Nat}
theorem other_old {c : Nat → cH} {h : Nat → Bool} (R : RI z n q Y s c h true) : partL 0 c 80 8 40 W13 5 = (0, 0, 0, c, none) := by
  obtain ⟨hB, i, j, hi, hj, hij, ho, hm, hx⟩ := R
  have O : OH (c j) := by
    rcases hx with hx | hx
    · exact hx.2
    · cases hx.1
  have his : isOfB (c j) 80 8 = true := by unfold isOfB; rw [O.1, O.2.1, O.2.2.1]; rfl
  have hid : idxH 80 8 c = j := idx_at hj his (fun k' a b => by
    by_cases hki : k' = i
    · rw [hki]; exact is8 hm
    · exact isOf_f (ho k' a hki b))
  rw [partL0 W13_ok]
  have e : partP 0 c 80 8 40 W13 5 = (0, 0, c, none) := by
    unfold partP
    rw [hid, if_pos his, if_pos (show hLn (c j) (40 / 8) = W13.length - 5 from O.2.2.2.2.2)]
  rw [e]
theorem other_new {c : Nat → cH} {h : Nat → Bool} (R : RI z n q Y s c h false) : ∃ c', RI z n q Y s c' h true ∧ partL 0 c 80 8 40 W13 5 = (1, 0, 0, c', none) := by
  obtain ⟨hB, i, j, hi, hj, hij, ho, hm, hx⟩ := R
  have hjf : hTh (c j) = false := by
    rcases hx with hx | hx
    · cases hx.1
    · exact hx.2
  have hu : ∀ k', k' < 3 → isOfB (c k') 80 8 = false := fun k' a => by
    by_cases hki : k' = i
    · rw [hki]; exact is8 hm
    · by_cases hkj : k' = j
      · rw [hkj]; exact isOf_f hjf
      · exact isOf_f (ho k' a hki hkj)
  obtain ⟨f1, f2⟩ := idx_free (z := 80) (t := 8) hj hjf hu
  rw [partL0 W13_ok]
  have he : partP 0 c 80 8 40 W13 5 = finP 0 (idxH 80 8 c) c (keepH (newH 80 8 0) 40 W13 5) := by
    unfold partP
    rw [hu _ f1, if_neg (by decide), f2, if_neg (by decide)]
  have O : OH (keepH (newH 80 8 0) 40 W13 5) := ⟨rfl, rfl, rfl, rfl, rfl, rfl⟩
  have hw : finP 0 (idxH 80 8 c) c (keepH (newH 80 8 0) 40 W13 5) = (1, 0, setH c (idxH 80 8 c) (keepH (newH 80 8 0) 40 W13 5), none) := by
    unfold finP
    rw [if_neg]
    unfold wholeB
    rw [O.2.2.2.1, O.2.1]
    simp
  rw [he, hw]
  generalize keepH (newH 80 8 0) 40 W13 5 = e at O
  generalize idxH 80 8 c = i0 at f1 f2
  refine ⟨setH c i0 e, ?_, rfl⟩
  have hb : NBc (setH c i0 e) := fun k hk => by
    by_cases hk0 : k = i0
    · rw [hk0, setH_same, O.2.2.2.1, O.2.2.2.2.1]; exact ⟨by decide, by decide⟩
    · rw [setH_ne hk0]; exact hB k hk
  by_cases h0 : i0 = i
  · have hm2 : hTh (c i) = false ∧ ((∀ k, k < n → h k = false) ∨ ∀ k, k < n → h k = true) := by
      rcases hm with hm | hm
      · rw [h0, hm.1.1] at f2; cases f2
      · exact hm
    refine ⟨hb, j, i0, hj, f1, by rw [h0]; exact Ne.symm hij, fun k a b d => ?_, Or.inr ⟨?_, hm2.2⟩, Or.inl ⟨rfl, by rw [setH_same]; exact O⟩⟩
    · rw [setH_ne d]; exact ho k a (by rw [← h0]; exact d) b
    · rw [setH_ne (by rw [h0]; exact Ne.symm hij)]; exact hjf
  · refine ⟨hb, i, i0, hi, f1, Ne.symm h0, fun k a b d => ?_, ?_, Or.inl ⟨rfl, by rw [setH_same]; exact O⟩⟩
    · rw [setH_ne d]
      by_cases hkj : k = j
      · rw [hkj]; exact hjf
      · exact ho k a b hkj
    · rw [setH_ne (Ne.symm h0)]; exact hm
end OT
/-- how hearing goes: RV: what holds of the heaps, of which parts were heard, and whether the other one was; FP: the packet -/
def MD (K : kN) (fr : List (List Nat)) (z n : Nat) (RV : (Nat → cH) → (Nat → Bool) → Bool → Prop) (FP : List Nat → Prop) : Prop :=
  (∀ c h x k, RV c h x → k < n → h k = true → (∃ k', k' < n ∧ h k' = false) → listenP K (fr.getD k []) 0 c = (0, 0, 0, c, none)) ∧
  (∀ c h x k, RV c h x → k < n → h k = false → ∃ c', RV c' (upH h k) x ∧ ((listenP K (fr.getD k []) 0 c = (1, 0, 0, c', none) ∧ ∃ k', k' < n ∧ upH h k k' = false) ∨ (∃ F, listenP K (fr.getD k []) 0 c = (2, 0, 0, c', some F) ∧ FP F ∧ ∀ k', k' < n → upH h k k' = true))) ∧
  (1 < n → ∀ c h, (RV c h true → listenP K W13 0 c = (0, 0, 0, c, none)) ∧ (RV c h false → ∃ c', RV c' h true ∧ listenP K W13 0 c = (1, 0, 0, c', none))) ∧
  (∀ F F', FP F → FP F' → F = F') ∧ (∀ F, FP F → F.length = z) ∧ (∀ c, (∀ i, hTh (c i) = false ∧ hNp (c i) = 0 ∧ hNb (c i) = 0) → RV c (fun _ => false) false) ∧ (∀ c h x, RV c h x → NBc c) ∧
  ∀ c h x, RV c h x → (∀ k, k < n → h k = true) → sumN (fun j => if hTh (c j) = true then 1 else 0) 3 = (if x = true then 1 else 0) ∧ sumN (fun j => if hTh (c j) = true then hNp (c j) else 0) 3 = (if x = true then 1 else 0)
theorem MD_1 {K : kN} {f P : List Nat} {z : Nat} (hP : P.length = z) (hl : ∀ c, listenP K f 0 c = (2, 0, 0, c, some P)) : MD K [f] z 1 (fun c _ x => NBc c ∧ (∀ i, i < 3 → hTh (c i) = false) ∧ x = false) (fun F => F = P) := by
  refine ⟨fun c h x k R hk hh hna => ?_, fun c h x k R hk hh => ?_, fun h1 => absurd h1 (by decide), fun F F' a b => a.trans b.symm, fun F a => by rw [a]; exact hP, fun c h0 => ⟨fun i _ => ?_, fun i _ => (h0 i).1, rfl⟩, fun c h x R => R.1, fun c h x R ha => ?_⟩
  · obtain ⟨k', a, b⟩ := hna
    rw [show k' = k by omega, hh] at b; cases b
  · have e : k = 0 := by omega
    subst e
    exact ⟨c, R, Or.inr ⟨P, hl c, rfl, fun k' hk' => by rw [show k' = 0 by omega]; exact upH_s h 0⟩⟩
  · rw [(h0 i).2.1, (h0 i).2.2]; exact ⟨by decide, by decide⟩
  · obtain ⟨-, R, rfl⟩ := R
    exact ⟨sumN_0 (fun i hi => by rw [R i hi]; rfl), sumN_0 (fun i hi => by rw [R i hi]; rfl)⟩
theorem MD_n {K : kN} {fs : List (List Nat)} {z : Nat} (h2 : 2 ≤ fs.length) (h40 : fs.length ≤ 40) (hz1 : 40 ≤ z) (hz2 : z ≤ 600) (h : TL K z 0 fs) : ∃ RV FP, MD K fs z fs.length RV FP := by
  obtain ⟨q, Y, s, a1, a2, a3⟩ := TL_fn fs 0 h
  have T : TI z fs.length q Y s := ⟨a1, a2, hz1, hz2, h40, fun k hk => ⟨(a3 k hk).1.2.1, (a3 k hk).1.2.2.1, (a3 k hk).1.2.2.2, (a3 k hk).2⟩⟩
  refine ⟨RI z fs.length q Y s, FPB z fs.length q Y s, fun c h x k R hk hh hna => ?_, fun c h x k R hk hh => ?_, fun _ c h => ⟨fun R => ?_, fun R => ?_⟩, fun F F' => FPB_1 T, fun F g => g.1, fun c h0 => ?_, fun c h x R => R.1, fun c h x R ha => RI_end R (by omega) ha⟩
  · rw [(a3 k hk).1.1]; exact hear_old T R hk hh hna
  · rw [(a3 k hk).1.1]; exact hear_new T R hk hh
  · rw [W13_l]; exact other_old R
  · rw [W13_l]; exact other_new R
  · exact ⟨fun i _ => by rw [(h0 i).2.1, (h0 i).2.2]; exact ⟨by decide, by decide⟩, 0, 1, by decide, by decide, by decide, fun k _ _ _ => (h0 k).1, Or.inr ⟨(h0 0).1, Or.inl (fun _ _ => rfl)⟩, Or.inr ⟨rfl, (h0 1).1⟩⟩
/-- a packet cut to frames, and how hearing them goes -/
theorem cut_MD {K : kN} {xs : List Nat} {size : Nat} (hp : isPk xs) (hz : xs.length ≤ 200) (h1 : 56 ≤ size) (h2 : size ≤ 120) : ∃ fs, cutA (sqAll K xs) (sqHd K xs).length (pkH xs) xs size 7 = some fs ∧ 1 ≤ fs.length ∧ fs.length ≤ 40 ∧ ∃ RV FP, MD K fs xs.length fs.length RV FP := by
  obtain ⟨fs, e, h⟩ := cut_TL (K := K) hp hz h1 h2
  have h40 : fs.length ≤ 40 := by
    unfold cutA at e
    split at e
    · cases e; simp
    · split at e
      · cases e
      · cases e
        have := cutR_len xs xs.length size 7 39 (pkH xs + cutM (sqHd K xs).length size)
        simp only [List.length_cons]; omega
  refine ⟨fs, e, ?_, h40, ?_⟩
  · rcases h with ⟨f, P, rfl, -⟩ | h
    · simp
    · omega
  · rcases h with ⟨f, P, rfl, a, b⟩ | h
    · exact ⟨_, _, MD_1 a b⟩
    · exact MD_n h.1 h40 hp.1 hp.2.1 h.2
