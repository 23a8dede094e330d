/-! bytes behind the first four, read from 0 or from 4 on -/
theorem nb_drop (bs : List Nat) (s a : Nat) : ∀ n, nb (bs.drop s) a n = nb bs (s + a) n
  | 0 => rfl
  | n + 1 => by rw [nb, nb, nb_drop bs s a n, getD_drop, Nat.add_assoc]
theorem uA1_s (b1 s : Nat) : uA1 b1 s = s + uA1 b1 0 := by unfold uA1; split <;> omega
theorem uA2_s (b0 b1 s : Nat) : uA2 b0 b1 s = s + uA2 b0 b1 0 := by have := uA1_s b1 s; unfold uA2; omega
theorem uA4_s (b0 b1 s : Nat) : uA4 b0 b1 s = s + uA4 b0 b1 0 := by have := uA2_s b0 b1 s; unfold uA4; rw [this]; omega
theorem uA5_s (b0 b1 s : Nat) : uA5 b0 b1 s = s + uA5 b0 b1 0 := by have := uA4_s b0 b1 s; unfold uA5; omega
theorem uA6_s (b0 b1 s : Nat) : uA6 b0 b1 s = s + uA6 b0 b1 0 := by have := uA5_s b0 b1 s; unfold uA6; omega
theorem uCx_d (bs : List Nat) (b1 s : Nat) : uCx (bs.drop s) b1 0 = uCx bs b1 s := by unfold uCx; rw [getD_drop, Nat.add_comm s (0 + 2), Nat.zero_add, Nat.add_comm 2 s]
theorem uFb_d (bs : List Nat) (tf a s : Nat) : uFb (bs.drop s) tf a = uFb bs tf (s + a) := by unfold uFb; rw [getD_drop]
theorem uT_d (bs : List Nat) (tf a s : Nat) : uT (bs.drop s) tf a = uT bs tf (s + a) := by unfold uT; rw [uFb_d]
theorem uL_d (bs : List Nat) (tf a s : Nat) : uL (bs.drop s) tf a = uL bs tf (s + a) := by unfold uL; rw [nb_drop, nb_drop, Nat.add_assoc]
theorem uWr_d (bs : List Nat) (tf a s : Nat) : uWr (bs.drop s) tf a = uWr bs tf (s + a) := by unfold uWr; rw [nb_drop, getD_drop, Nat.add_assoc]
theorem uFm_d (bs : List Nat) (b0 b1 s : Nat) : uFm (bs.drop s) b0 b1 0 = uFm bs b0 b1 s := by unfold uFm; rw [getD_drop, ← uA6_s]
theorem uA7_d (bs : List Nat) (b0 b1 s : Nat) : uA7 bs b0 b1 s = s + uA7 (bs.drop s) b0 b1 0 := by
  unfold uA7
  rw [uFm_d, uA6_s b0 b1 s]
  split <;> omega
theorem cutD_d (bs : List Nat) (s a n : Nat) : cutD (bs.drop s) a n = cutD bs (s + a) n := by
  unfold cutD
  refine List.map_congr_left (fun i _ => ?_)
  rw [getD_drop, Nat.add_assoc]
theorem uAd_d (K : kN) (m w cx : Nat) (bs : List Nat) (s a : Nat) : uAd K m w cx (bs.drop s) a = uAd K m w cx bs (s + a) := by
  unfold uAd
  rw [nb_drop, nb_drop, nb_drop, nb_drop, getD_drop]
  simp only [Nat.add_assoc]
theorem iteF {p p' : Prop} [Decidable p] [Decidable p'] {a a' b b' : Nat × Nat} (h : p ↔ p') (ha : a.1 = a'.1) (hb : b.1 = b'.1) : (if p then a else b).1 = (if p' then a' else b').1 := by
  by_cases hp : p
  · rw [if_pos hp, if_pos (h.mp hp)]; exact ha
  · rw [if_neg hp, if_neg (fun g => hp (h.mpr g))]; exact hb
theorem uFt_d (K : kN) {bs : List Nat} {s : Nat} (hs : s ≤ bs.length) : (uFt K (bs.drop s) 0).1 = (uFt K bs s).1 := by
  have hl : (bs.drop s).length = bs.length - s := List.length_drop
  unfold uFt
  dsimp only
  simp only [getD_drop, Nat.add_zero, Nat.zero_add, hl, uCx_d, uWr_d, uFm_d]
  have e1 := uA1_s (bs.getD (s + 1) 0) s
  have e2 := uA2_s (bs.getD s 0) (bs.getD (s + 1) 0) s
  have e6 := uA6_s (bs.getD s 0) (bs.getD (s + 1) 0) s
  have e7 := uA7_d bs (bs.getD s 0) (bs.getD (s + 1) 0) s
  rw [← e1]
  refine iteF (by omega) rfl (iteF Iff.rfl rfl (iteF (by omega) rfl (iteF Iff.rfl rfl (iteF (by omega) rfl (iteF Iff.rfl rfl (iteF (by omega) rfl (iteF Iff.rfl rfl (iteF (by omega) rfl (iteF Iff.rfl ?_ rfl)))))))))
  exact iteF (by omega) rfl (iteF Iff.rfl rfl (iteF (by omega) rfl rfl))
theorem uBe_d {bs : List Nat} {s : Nat} (o : Option Nat) : uBe (bs.drop s) 0 o = uBe bs s o := by
  have hl : (bs.drop s).length = bs.length - s := List.length_drop
  cases o with
  | some n => rfl
  | none =>
    show (bs.drop s).length - uA7 (bs.drop s) ((bs.drop s).getD 0 0) ((bs.drop s).getD (0 + 1) 0) 0 + (if uPo ((bs.drop s).getD 0 0) then 8 else 0) = bs.length - uA7 bs (bs.getD s 0) (bs.getD (s + 1) 0) s + (if uPo (bs.getD s 0) then 8 else 0)
    simp only [getD_drop, Nat.add_zero, Nat.zero_add, hl]
    rw [uA7_d bs _ _ s]
    omega
theorem uF_d (K : kN) {bs : List Nat} {s : Nat} (hs : s ≤ bs.length) (o : Option Nat) : (uF K (bs.drop s) 0 o).1 = (uF K bs s o).1 := by
  have h := uFt_d K hs
  unfold uF
  rw [uBe_d]
  exact iteF (by rw [h]) h (iteF Iff.rfl rfl rfl)
theorem uPk_d (K : kN) {bs : List Nat} {s : Nat} (o : Option Nat) : uPk K (bs.drop s) 0 o = uPk K bs s o := by
  have hl : (bs.drop s).length = bs.length - s := List.length_drop
  unfold uPk uHd
  dsimp only
  rw [uBe_d, hl]
  simp only [getD_drop, Nat.add_zero, show s + (0 + 1) = s + 1 from rfl, uCx_d, uT_d, uL_d, uFm_d, uAd_d, nb_drop, cutD_d]
  rw [uA7_d bs (bs.getD s 0) (bs.getD (s + 1) 0) s, uA1_s (bs.getD (s + 1) 0) s, uA2_s (bs.getD s 0) (bs.getD (s + 1) 0) s, uA4_s (bs.getD s 0) (bs.getD (s + 1) 0) s, uA5_s (bs.getD s 0) (bs.getD (s + 1) 0) s, uA6_s (bs.getD s 0) (bs.getD (s + 1) 0) s]
  simp only [Nat.add_assoc]
  congr 2
  omega
