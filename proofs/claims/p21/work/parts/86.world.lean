def lw_ix (r : Nat) : Nat := if 34 ≤ r then r - 20 else if 22 ≤ r then r + 79 else [0, 8, 9, 10, 11, 1, 2, 3, 4, 5, 6, 7, 12, 13, 94, 95, 96, 97, 98, 99, 100, 113].getD r 0
theorem lw_ix_lt : ∀ r, r < 114 → lw_ix r < 114 := by decide +kernel
theorem lw_ix_inj : ∀ r, r < 114 → ∀ r', r' < 114 → lw_ix r = lw_ix r' → r = r' := by decide +kernel
def gC (l : Launch) (D : va_G) (cy : Nat → ClassId) (a0 : Nat) (t0 : Nat × Nat × Nat × (Nat → Int32)) : tw_G := (l, D, cy, fun r => a0 + lw_ix r, fun r => r < 114, t0, (List.range 114).map (fun i => a0 + i))
def S0 : tw_S := (fun _ => [], fun _ _ => 0, fun r _ => if r = 5 then lN 1099478073344 else 0, fun _ _ => 0, fun _ _ => 0)
def eC (G : tw_G) (a0 : Nat) (g : Nat → va_E) : Nat → va_E := fun i => if i = 13 then .inl (tw_cy G 4, 40, .inr (.inr (.inr (.inr (fun i => some (a0 + lw_ix (34 + 2 * i))))))) else if i = 100 then .inl (tw_cy G 5, 3, .inr (.inr (.inr (.inr (fun i => some (a0 + lw_ix (22 + 4 * i))))))) else g10 G a0 g i
theorem eC_n {G : tw_G} {a0 : Nat} {g : Nat → va_E} {i : Nat} {e : va_E} (h1 : i ≠ 13) (h2 : i ≠ 100) (h : g10 G a0 g i = e) : eC G a0 g i = e := by
  unfold eC; rw [if_neg h1, if_neg h2]; exact h
theorem gC_pl (l : Launch) (D : va_G) (cy : Nat → ClassId) (a0 : Nat) (t0 : Nat × Nat × Nat × (Nat → Int32)) (h : Nat → va_E) : va_pl (tw_LA (gC l D cy a0 t0)) (fun a => h (a - a0)) = blk a0 h 114 := by
  show ((List.range 114).map (fun i => a0 + i)).map (fun a => (a, h (a - a0))) = _
  rw [List.map_map]
  exact List.map_congr_left (fun i _ => by simp)
theorem g10_fr (G : tw_G) (a0 : Nat) (g : Nat → va_E) {k : Nat} (hk : k < 40) : g10 G a0 g (14 + 2 * k) = .inr (5, [.ref (a0 + (14 + 2 * k + 1)), .int 0]) ∧ g10 G a0 g (15 + 2 * k) = .inl (tw_cy G 0, (120, .inl (fun _ => 0))) := by
  have h : ∀ q, 14 ≤ q → q < 94 → g10 G a0 g q = (if (q - 13) % 2 = 1 then .inr (5, [.ref (a0 + (q + 1)), .int 0]) else .inl (tw_cy G 0, (120, .inl (fun _ => 0)))) := fun q h1 h2 => by
    refine Eq.trans (upE_n _ _ (by omega)) (Eq.trans (upE_n _ _ (by omega)) (Eq.trans (upE_n _ _ (by omega)) (Eq.trans (qX6_o _ _ _ _ _ _ (by omega) (by omega)) (Eq.trans (upE_n _ _ (by omega)) (Eq.trans (upE_n _ _ (by omega)) (Eq.trans (qX0_o _ _ _ _ _ _ (by omega) (by omega)) (Eq.trans (upE_n _ _ (by omega)) (Eq.trans (upE_n _ _ (by omega)) (Eq.trans (upE_n _ _ (by omega)) ?_)))))))))
    rw [FRg, if_neg (by omega), if_neg (by omega), if_pos (by omega)]
  refine ⟨?_, ?_⟩
  · rw [h _ (by omega) (by omega), if_pos (by omega)]
  · rw [h _ (by omega) (by omega), if_neg (by omega)]
theorem arrV_cg (c : ClassId) (n : Nat) {f g : Nat → Value} (h : ∀ j, j < n → f j = g j) : arrV c n f = arrV c n g := by
  unfold arrV
  congr 1
  congr 1
  funext j
  exact h j.1 j.2
theorem eC_P {G : tw_G} {a0 : Nat} {g : Nat → va_E} {H : Heap} (h : va_P (tw_D G) vwCl (blk a0 (g10 G a0 g) 114) H) : va_P (tw_D G) vwCl (blk a0 (eC G a0 g) 114) H := by
  intro k q hk
  obtain ⟨hkn, rfl⟩ := blk_out hk
  have h1 := h k _ (blk_get hkn)
  by_cases h13 : k = 13
  · subst h13
    rw [g10_13] at h1
    rw [show eC G a0 g 13 = .inl (tw_cy G 4, 40, .inr (.inr (.inr (.inr (fun i => some (a0 + lw_ix (34 + 2 * i))))))) from if_pos rfl]
    refine Eq.trans (show H[a0 + 13]? = some (vp_cell _ _) from h1) (congrArg some ?_)
    rw [vp_cell_q, vp_cell_q]
    refine arrV_cg _ _ (fun j hj => ?_)
    show va_rf (if j < 40 then some (a0 + (13 + 1 + 2 * j)) else none) = va_rf (some (a0 + lw_ix (34 + 2 * j)))
    rw [if_pos hj, show lw_ix (34 + 2 * j) = 13 + 1 + 2 * j by unfold lw_ix; rw [if_pos (by omega)]; omega]
  · by_cases h100 : k = 100
    · subst h100
      rw [g10_100] at h1
      rw [show eC G a0 g 100 = .inl (tw_cy G 5, 3, .inr (.inr (.inr (.inr (fun i => some (a0 + lw_ix (22 + 4 * i))))))) from (if_neg (by decide)).trans (if_pos rfl)]
      refine Eq.trans (show H[a0 + 100]? = some (vp_cell _ _) from h1) (congrArg some ?_)
      rw [vp_cell_q, vp_cell_q]
      refine arrV_cg _ _ (fun j hj => ?_)
      match j, hj with
      | 0, _ => rfl
      | 1, _ => rfl
      | 2, _ => rfl
      | j + 3, h => exact absurd h (by omega)
    · rw [eC_n h13 h100 rfl]; exact h1
section WC
variable (l : Launch) (D : va_G) (cy : Nat → ClassId) (a0 : Nat) (t0 : Nat × Nat × Nat × (Nat → Int32)) (g : Nat → va_E)
theorem en_0 : tw_en (gC l D cy a0 t0) S0 0 (eC (gC l D cy a0 t0) a0 g (lw_ix 0)) := by
  have h1 : tw_sh 0 = some (8, [4, 6, 8, 11, 12, 15, 17, 22, 24]) := by decide +kernel
  have e := eC_n (by decide) (by decide) (g10_0 (gC l D cy a0 t0) a0 g)
  unfold tw_en
  rw [h1, show lw_ix 0 = 0 from rfl, e]
  rfl
theorem en_1 : tw_en (gC l D cy a0 t0) S0 1 (eC (gC l D cy a0 t0) a0 g (lw_ix 1)) := by
  have h1 : tw_sh 1 = some (5, [5, 2]) := by decide +kernel
  have e := eC_n (by decide) (by decide) (g10_8 (gC l D cy a0 t0) a0 g)
  unfold tw_en
  rw [h1, show lw_ix 1 = 8 from rfl, e]
  rfl
theorem en_2 : tw_en (gC l D cy a0 t0) S0 2 (eC (gC l D cy a0 t0) a0 g (lw_ix 2)) := by
  have h1 : tw_sh 2 = none := by decide +kernel
  have h2 : tw_ar 2 = some (3, 640) := by decide +kernel
  have e := eC_n (by decide) (by decide) (g10_9 (gC l D cy a0 t0) a0 g)
  unfold tw_en
  rw [h1, h2, show lw_ix 2 = 9 from rfl, e]
  exact ⟨_, rfl, fun i x h => by cases h⟩
theorem en_3 : tw_en (gC l D cy a0 t0) S0 3 (eC (gC l D cy a0 t0) a0 g (lw_ix 3)) := by
  have h1 : tw_sh 3 = some (5, [7, 2]) := by decide +kernel
  have e := eC_n (by decide) (by decide) (g10_10 (gC l D cy a0 t0) a0 g)
  unfold tw_en
  rw [h1, show lw_ix 3 = 10 from rfl, e]
  rfl
theorem en_4 : tw_en (gC l D cy a0 t0) S0 4 (eC (gC l D cy a0 t0) a0 g (lw_ix 4)) := by
  have h1 : tw_sh 4 = none := by decide +kernel
  have h2 : tw_ar 4 = some (3, 640) := by decide +kernel
  have e := eC_n (by decide) (by decide) (g10_11 (gC l D cy a0 t0) a0 g)
  unfold tw_en
  rw [h1, h2, show lw_ix 4 = 11 from rfl, e]
  exact ⟨_, rfl, fun i x h => by cases h⟩
theorem en_5 : tw_en (gC l D cy a0 t0) S0 5 (eC (gC l D cy a0 t0) a0 g (lw_ix 5)) := by
  have h1 : tw_sh 5 = some (3, [9, 10, 1, 1]) := by decide +kernel
  have e := eC_n (by decide) (by decide) (g10_1 (gC l D cy a0 t0) a0 g)
  unfold tw_en
  rw [h1, show lw_ix 5 = 1 from rfl, e]
  rfl
theorem en_6 : tw_en (gC l D cy a0 t0) S0 6 (eC (gC l D cy a0 t0) a0 g (lw_ix 6)) := by
  have h1 : tw_sh 6 = none := by decide +kernel
  have h2 : tw_ar 6 = some (1, 16) := by decide +kernel
  have e := eC_n (by decide) (by decide) (g10_2 (gC l D cy a0 t0) a0 g)
  unfold tw_en
  rw [h1, h2, show lw_ix 6 = 2 from rfl, e]
  rfl
theorem en_7 : tw_en (gC l D cy a0 t0) S0 7 (eC (gC l D cy a0 t0) a0 g (lw_ix 7)) := by
  have h1 : tw_sh 7 = none := by decide +kernel
  have h2 : tw_ar 7 = some (2, 16) := by decide +kernel
  have e := eC_n (by decide) (by decide) (g10_3 (gC l D cy a0 t0) a0 g)
  unfold tw_en
  rw [h1, h2, show lw_ix 7 = 3 from rfl, e]
  rfl
theorem en_8 : tw_en (gC l D cy a0 t0) S0 8 (eC (gC l D cy a0 t0) a0 g (lw_ix 8)) := by
  have h1 : tw_sh 8 = some (6, [8]) := by decide +kernel
  have e := eC_n (by decide) (by decide) (g10_4 (gC l D cy a0 t0) a0 g)
  unfold tw_en
  rw [h1, show lw_ix 8 = 4 from rfl, e]
  rfl
theorem en_9 : tw_en (gC l D cy a0 t0) S0 9 (eC (gC l D cy a0 t0) a0 g (lw_ix 9)) := by
  have h1 : tw_sh 9 = some (7, [8, 13, 0, 0, 0, 0, 0, 0, 0, 0]) := by decide +kernel
  have e := eC_n (by decide) (by decide) (g10_5 (gC l D cy a0 t0) a0 g)
  unfold tw_en
  rw [h1, show lw_ix 9 = 5 from rfl, e]
  rfl
theorem en_10 : tw_en (gC l D cy a0 t0) S0 10 (eC (gC l D cy a0 t0) a0 g (lw_ix 10)) := by
  have h1 : tw_sh 10 = some (5, [14, 2]) := by decide +kernel
  have e := eC_n (by decide) (by decide) (g10_6 (gC l D cy a0 t0) a0 g)
  unfold tw_en
  rw [h1, show lw_ix 10 = 6 from rfl, e]
  rfl
theorem en_11 : tw_en (gC l D cy a0 t0) S0 11 (eC (gC l D cy a0 t0) a0 g (lw_ix 11)) := by
  have h1 : tw_sh 11 = none := by decide +kernel
  have h2 : tw_ar 11 = some (3, 600) := by decide +kernel
  have e := eC_n (by decide) (by decide) (g10_7 (gC l D cy a0 t0) a0 g)
  unfold tw_en
  rw [h1, h2, show lw_ix 11 = 7 from rfl, e]
  exact ⟨_, rfl, fun i x h => by cases h⟩
theorem en_12 : tw_en (gC l D cy a0 t0) S0 12 (eC (gC l D cy a0 t0) a0 g (lw_ix 12)) := by
  have h1 : tw_sh 12 = some (1, [16, 0]) := by decide +kernel
  have e := eC_n (by decide) (by decide) (g10_12 (gC l D cy a0 t0) a0 g)
  unfold tw_en
  rw [h1, show lw_ix 12 = 12 from rfl, e]
  rfl
theorem en_13 : tw_en (gC l D cy a0 t0) S0 13 (eC (gC l D cy a0 t0) a0 g (lw_ix 13)) := by
  have h1 : tw_sh 13 = none := by decide +kernel
  have h2 : tw_ar 13 = some (4, 40) := by decide +kernel
  have e := show eC (gC l D cy a0 t0) a0 g 13 = _ from if_pos rfl
  unfold tw_en
  rw [h1, h2, show lw_ix 13 = 13 from rfl, e]
  rfl
theorem en_14 : tw_en (gC l D cy a0 t0) S0 14 (eC (gC l D cy a0 t0) a0 g (lw_ix 14)) := by
  have h1 : tw_sh 14 = some (0, [11, 18, 20]) := by decide +kernel
  have e := eC_n (by decide) (by decide) (g10_94 (gC l D cy a0 t0) a0 g)
  unfold tw_en
  rw [h1, show lw_ix 14 = 94 from rfl, e]
  rfl
theorem en_15 : tw_en (gC l D cy a0 t0) S0 15 (eC (gC l D cy a0 t0) a0 g (lw_ix 15)) := by
  have h1 : tw_sh 15 = some (5, [19, 2]) := by decide +kernel
  have e := eC_n (by decide) (by decide) (g10_95 (gC l D cy a0 t0) a0 g)
  unfold tw_en
  rw [h1, show lw_ix 15 = 95 from rfl, e]
  rfl
theorem en_16 : tw_en (gC l D cy a0 t0) S0 16 (eC (gC l D cy a0 t0) a0 g (lw_ix 16)) := by
  have h1 : tw_sh 16 = none := by decide +kernel
  have h2 : tw_ar 16 = some (3, 640) := by decide +kernel
  have e := eC_n (by decide) (by decide) (g10_96 (gC l D cy a0 t0) a0 g)
  unfold tw_en
  rw [h1, h2, show lw_ix 16 = 96 from rfl, e]
  exact ⟨_, rfl, fun i x h => by cases h⟩
theorem en_17 : tw_en (gC l D cy a0 t0) S0 17 (eC (gC l D cy a0 t0) a0 g (lw_ix 17)) := by
  have h1 : tw_sh 17 = some (5, [21, 2]) := by decide +kernel
  have e := eC_n (by decide) (by decide) (g10_97 (gC l D cy a0 t0) a0 g)
  unfold tw_en
  rw [h1, show lw_ix 17 = 97 from rfl, e]
  rfl
theorem en_18 : tw_en (gC l D cy a0 t0) S0 18 (eC (gC l D cy a0 t0) a0 g (lw_ix 18)) := by
  have h1 : tw_sh 18 = none := by decide +kernel
  have h2 : tw_ar 18 = some (3, 120) := by decide +kernel
  have e := eC_n (by decide) (by decide) (g10_98 (gC l D cy a0 t0) a0 g)
  unfold tw_en
  rw [h1, h2, show lw_ix 18 = 98 from rfl, e]
  exact ⟨_, rfl, fun i x h => by cases h⟩
theorem en_19 : tw_en (gC l D cy a0 t0) S0 19 (eC (gC l D cy a0 t0) a0 g (lw_ix 19)) := by
  have h1 : tw_sh 19 = some (4, [12, 23, 0, 0, 0, 0, 0]) := by decide +kernel
  have e := eC_n (by decide) (by decide) (g10_99 (gC l D cy a0 t0) a0 g)
  unfold tw_en
  rw [h1, show lw_ix 19 = 99 from rfl, e]
  rfl
theorem en_20 : tw_en (gC l D cy a0 t0) S0 20 (eC (gC l D cy a0 t0) a0 g (lw_ix 20)) := by
  have h1 : tw_sh 20 = none := by decide +kernel
  have h2 : tw_ar 20 = some (5, 3) := by decide +kernel
  have e := show eC (gC l D cy a0 t0) a0 g 100 = _ from (if_neg (by decide)).trans (if_pos rfl)
  unfold tw_en
  rw [h1, h2, show lw_ix 20 = 100 from rfl, e]
  rfl
theorem en_21 : tw_en (gC l D cy a0 t0) S0 21 (eC (gC l D cy a0 t0) a0 g (lw_ix 21)) := by
  have h1 : tw_sh 21 = none := by decide +kernel
  have h2 : tw_ar 21 = some (0, 8) := by decide +kernel
  have e := eC_n (by decide) (by decide) (g10_113 (gC l D cy a0 t0) a0 g)
  unfold tw_en
  rw [h1, h2, show lw_ix 21 = 113 from rfl, e]
  rfl
theorem en_22 : tw_en (gC l D cy a0 t0) S0 22 (eC (gC l D cy a0 t0) a0 g (lw_ix 22)) := by
  have h1 : tw_sh 22 = some (2, [26, 28, 0, 0, 0, 0, 0, 0]) := by decide +kernel
  have e := eC_n (by decide) (by decide) (g10_101 (gC l D cy a0 t0) a0 g)
  unfold tw_en
  rw [h1, show lw_ix 22 = 101 from rfl, e]
  rfl
theorem en_23 : tw_en (gC l D cy a0 t0) S0 23 (eC (gC l D cy a0 t0) a0 g (lw_ix 23)) := by
  have h1 : tw_sh 23 = some (5, [27, 2]) := by decide +kernel
  have e := eC_n (by decide) (by decide) (g10_102 (gC l D cy a0 t0) a0 g)
  unfold tw_en
  rw [h1, show lw_ix 23 = 102 from rfl, e]
  rfl
theorem en_24 : tw_en (gC l D cy a0 t0) S0 24 (eC (gC l D cy a0 t0) a0 g (lw_ix 24)) := by
  have h1 : tw_sh 24 = none := by decide +kernel
  have h2 : tw_ar 24 = some (3, 600) := by decide +kernel
  have e := eC_n (by decide) (by decide) (g10_103 (gC l D cy a0 t0) a0 g)
  unfold tw_en
  rw [h1, h2, show lw_ix 24 = 103 from rfl, e]
  exact ⟨_, rfl, fun i x h => by cases h⟩
theorem en_25 : tw_en (gC l D cy a0 t0) S0 25 (eC (gC l D cy a0 t0) a0 g (lw_ix 25)) := by
  have h1 : tw_sh 25 = none := by decide +kernel
  have h2 : tw_ar 25 = some (0, 75) := by decide +kernel
  have e := eC_n (by decide) (by decide) (g10_104 (gC l D cy a0 t0) a0 g)
  unfold tw_en
  rw [h1, h2, show lw_ix 25 = 104 from rfl, e]
  rfl
theorem en_26 : tw_en (gC l D cy a0 t0) S0 26 (eC (gC l D cy a0 t0) a0 g (lw_ix 26)) := by
  have h1 : tw_sh 26 = some (2, [30, 32, 0, 0, 0, 0, 0, 0]) := by decide +kernel
  have e := eC_n (by decide) (by decide) (g10_105 (gC l D cy a0 t0) a0 g)
  unfold tw_en
  rw [h1, show lw_ix 26 = 105 from rfl, e]
  rfl
theorem en_27 : tw_en (gC l D cy a0 t0) S0 27 (eC (gC l D cy a0 t0) a0 g (lw_ix 27)) := by
  have h1 : tw_sh 27 = some (5, [31, 2]) := by decide +kernel
  have e := eC_n (by decide) (by decide) (g10_106 (gC l D cy a0 t0) a0 g)
  unfold tw_en
  rw [h1, show lw_ix 27 = 106 from rfl, e]
  rfl
theorem en_28 : tw_en (gC l D cy a0 t0) S0 28 (eC (gC l D cy a0 t0) a0 g (lw_ix 28)) := by
  have h1 : tw_sh 28 = none := by decide +kernel
  have h2 : tw_ar 28 = some (3, 600) := by decide +kernel
  have e := eC_n (by decide) (by decide) (g10_107 (gC l D cy a0 t0) a0 g)
  unfold tw_en
  rw [h1, h2, show lw_ix 28 = 107 from rfl, e]
  exact ⟨_, rfl, fun i x h => by cases h⟩
theorem en_29 : tw_en (gC l D cy a0 t0) S0 29 (eC (gC l D cy a0 t0) a0 g (lw_ix 29)) := by
  have h1 : tw_sh 29 = none := by decide +kernel
  have h2 : tw_ar 29 = some (0, 75) := by decide +kernel
  have e := eC_n (by decide) (by decide) (g10_108 (gC l D cy a0 t0) a0 g)
  unfold tw_en
  rw [h1, h2, show lw_ix 29 = 108 from rfl, e]
  rfl
theorem en_30 : tw_en (gC l D cy a0 t0) S0 30 (eC (gC l D cy a0 t0) a0 g (lw_ix 30)) := by
  have h1 : tw_sh 30 = some (2, [34, 36, 0, 0, 0, 0, 0, 0]) := by decide +kernel
  have e := eC_n (by decide) (by decide) (g10_109 (gC l D cy a0 t0) a0 g)
  unfold tw_en
  rw [h1, show lw_ix 30 = 109 from rfl, e]
  rfl
theorem en_31 : tw_en (gC l D cy a0 t0) S0 31 (eC (gC l D cy a0 t0) a0 g (lw_ix 31)) := by
  have h1 : tw_sh 31 = some (5, [35, 2]) := by decide +kernel
  have e := eC_n (by decide) (by decide) (g10_110 (gC l D cy a0 t0) a0 g)
  unfold tw_en
  rw [h1, show lw_ix 31 = 110 from rfl, e]
  rfl
theorem en_32 : tw_en (gC l D cy a0 t0) S0 32 (eC (gC l D cy a0 t0) a0 g (lw_ix 32)) := by
  have h1 : tw_sh 32 = none := by decide +kernel
  have h2 : tw_ar 32 = some (3, 600) := by decide +kernel
  have e := eC_n (by decide) (by decide) (g10_111 (gC l D cy a0 t0) a0 g)
  unfold tw_en
  rw [h1, h2, show lw_ix 32 = 111 from rfl, e]
  exact ⟨_, rfl, fun i x h => by cases h⟩
theorem en_33 : tw_en (gC l D cy a0 t0) S0 33 (eC (gC l D cy a0 t0) a0 g (lw_ix 33)) := by
  have h1 : tw_sh 33 = none := by decide +kernel
  have h2 : tw_ar 33 = some (0, 75) := by decide +kernel
  have e := eC_n (by decide) (by decide) (g10_112 (gC l D cy a0 t0) a0 g)
  unfold tw_en
  rw [h1, h2, show lw_ix 33 = 112 from rfl, e]
  rfl
theorem frRow : ∀ k, k < 40 → tw_isRow (34 + 2 * k) = true ∧ tw_cap (34 + 2 * k) = 120 := by decide +kernel
theorem en_row {k : Nat} (hk : k < 40) : tw_en (gC l D cy a0 t0) S0 (34 + 2 * k) (eC (gC l D cy a0 t0) a0 g (lw_ix (34 + 2 * k))) := by
  have hx : lw_ix (34 + 2 * k) = 14 + 2 * k := by unfold lw_ix; rw [if_pos (by omega)]; omega
  have hy : lw_ix (34 + 2 * k + 4 - 3) = 14 + 2 * k + 1 := by unfold lw_ix; rw [if_pos (by omega)]; omega
  have e := eC_n (i := 14 + 2 * k) (by omega) (by omega) (g10_fr (gC l D cy a0 t0) a0 g hk).1
  unfold tw_en
  rw [tw_row_sh (frRow k hk).1, hx, e]
  show _ = (.inr (5, tw_fl (fun k_1 c => tw_fv (tw_ad (gC l D cy a0 t0)) S0 (34 + 2 * k) k_1 c) 0 [34 + 2 * k + 4, 2]) : va_E)
  simp only [tw_fl, tw_fv]
  rw [if_neg (by omega), if_neg (by omega), if_neg (by omega)]
  show _ = (.inr (5, [.ref (a0 + lw_ix (34 + 2 * k + 4 - 3)), _]) : va_E)
  rw [hy]
  rfl
theorem en_arr {k : Nat} (hk : k < 40) : tw_en (gC l D cy a0 t0) S0 (34 + 2 * k + 1) (eC (gC l D cy a0 t0) a0 g (lw_ix (34 + 2 * k + 1))) := by
  have hx : lw_ix (34 + 2 * k + 1) = 15 + 2 * k := by unfold lw_ix; rw [if_pos (by omega)]; omega
  have e := eC_n (i := 15 + 2 * k) (by omega) (by omega) (g10_fr (gC l D cy a0 t0) a0 g hk).2
  unfold tw_en
  rw [tw_row_a0 (frRow k hk).1, tw_row_ar (frRow k hk).1, (frRow k hk).2, hx, e]
  exact ⟨_, rfl, fun i x h => by cases h⟩
theorem en_all : ∀ r, r < 114 → tw_en (gC l D cy a0 t0) S0 r (eC (gC l D cy a0 t0) a0 g (lw_ix r))
  | 0, _ => en_0 l D cy a0 t0 g
  | 1, _ => en_1 l D cy a0 t0 g
  | 2, _ => en_2 l D cy a0 t0 g
  | 3, _ => en_3 l D cy a0 t0 g
  | 4, _ => en_4 l D cy a0 t0 g
  | 5, _ => en_5 l D cy a0 t0 g
  | 6, _ => en_6 l D cy a0 t0 g
  | 7, _ => en_7 l D cy a0 t0 g
  | 8, _ => en_8 l D cy a0 t0 g
  | 9, _ => en_9 l D cy a0 t0 g
  | 10, _ => en_10 l D cy a0 t0 g
  | 11, _ => en_11 l D cy a0 t0 g
  | 12, _ => en_12 l D cy a0 t0 g
  | 13, _ => en_13 l D cy a0 t0 g
  | 14, _ => en_14 l D cy a0 t0 g
  | 15, _ => en_15 l D cy a0 t0 g
  | 16, _ => en_16 l D cy a0 t0 g
  | 17, _ => en_17 l D cy a0 t0 g
  | 18, _ => en_18 l D cy a0 t0 g
  | 19, _ => en_19 l D cy a0 t0 g
  | 20, _ => en_20 l D cy a0 t0 g
  | 21, _ => en_21 l D cy a0 t0 g
  | 22, _ => en_22 l D cy a0 t0 g
  | 23, _ => en_23 l D cy a0 t0 g
  | 24, _ => en_24 l D cy a0 t0 g
  | 25, _ => en_25 l D cy a0 t0 g
  | 26, _ => en_26 l D cy a0 t0 g
  | 27, _ => en_27 l D cy a0 t0 g
  | 28, _ => en_28 l D cy a0 t0 g
  | 29, _ => en_29 l D cy a0 t0 g
  | 30, _ => en_30 l D cy a0 t0 g
  | 31, _ => en_31 l D cy a0 t0 g
  | 32, _ => en_32 l D cy a0 t0 g
  | 33, _ => en_33 l D cy a0 t0 g
  | r + 34, h => by
    by_cases hr : r % 2 = 0
    · have e : r + 34 = 34 + 2 * (r / 2) := by omega
      rw [e]
      exact en_row l D cy a0 t0 g (by omega)
    · have e : r + 34 = 34 + 2 * (r / 2) + 1 := by omega
      rw [e]
      exact en_arr l D cy a0 t0 g (by omega)
theorem W_C {H : Heap} (h : va_P D vwCl (blk a0 (g10 (gC l D cy a0 t0) a0 g) 114) H) : tw_W (gC l D cy a0 t0) S0 H := by
  refine ⟨fun r _ _ => ⟨Nat.zero_le _, fun x hx => by cases hx⟩, fun a => eC (gC l D cy a0 t0) a0 g (a - a0), ?_, fun r hr => ?_⟩
  · rw [gC_pl]
    exact eC_P (G := gC l D cy a0 t0) h
  · show tw_en _ S0 r (eC (gC l D cy a0 t0) a0 g (a0 + lw_ix r - a0))
    rw [Nat.add_sub_cancel_left]
    exact en_all l D cy a0 t0 g r hr
end WC
def K00 : kN := (fun _ => false, fun _ => 0, fun _ => 0)
def K0 : kN := kLnk (kLnk K00 0 1099478073344) 1 1099478073344
def c00 : Nat → cH := fun _ => (false, 0, 0, 0, 0, 0, fun _ => 0, [])
theorem K0_W : KW K0 := ⟨fun i => (show (0 : Nat) < 2 ^ 64 by decide), fun i => by
  show (if i = 1 then 1099478073344 else if i = 0 then 1099478073344 else 0) < 2 ^ 64
  split
  · decide
  · split <;> decide⟩
theorem z20 : (0 : Nat) < 2 ^ 20 := by decide
theorem CI_0 : CI S0 K0 [] [] [] (fun _ => 0) c00 0 0 0 0 0 := by
  refine ⟨⟨fun i _ => rfl, fun i _ => rfl, rfl, rfl, K0_W⟩, rfl, rfl, ⟨by decide, rfl, fun k hk => absurd hk (Nat.not_lt_zero _)⟩, fun _ _ => rfl, fun i _ => ⟨⟨rfl, rfl, rfl, rfl, rfl, rfl, fun _ _ => rfl, rfl⟩, z20, z20, z20, z20, z20, fun k => z20⟩, rfl, rfl, rfl, rfl, rfl⟩
