/-! what both ends know, and how addresses are told: over natural numbers -/
abbrev kN : Type := (Nat → Bool) × (Nat → Nat) × (Nat → Nat)
def kT (K : kN) : Nat → Bool := K.1
def kV (K : kN) : Nat → Nat := K.2.1
def kO (K : kN) : Nat → Nat := K.2.2
def KW (K : kN) : Prop := (∀ i, kV K i < 2 ^ 64) ∧ ∀ i, kO K i < 2 ^ 64
/-- the class's Known holds K -/
def KN (S : tw_S) (K : kN) : Prop := (∀ i, i < 16 → tw_A S 6 i = bI (kT K i)) ∧ (∀ i, i < 16 → tw_B S 7 i = lN (kV K i)) ∧ tw_J S 5 2 = lN (kO K 0) ∧ tw_J S 5 3 = lN (kO K 1) ∧ KW K
/-- the least context, from i on, of d places, that holds v -/
def lst (K : kN) (v : Nat) : Nat → Nat → Option Nat
  | _, 0 => none
  | i, d + 1 => if kT K i = true ∧ kV K i = v then some i else lst K v (i + 1) d
def lsI : Option Nat → Int32
  | none => -1
  | some i => nI i
theorem lst_lt (K : kN) (v : Nat) : ∀ (d i j : Nat), lst K v i d = some j → i ≤ j ∧ j < i + d ∧ kT K j = true ∧ kV K j = v
  | 0, i, j, h => by simp [lst] at h
  | d + 1, i, j, h => by
    simp only [lst] at h
    split at h
    · rename_i hc
      cases h
      exact ⟨Nat.le_refl _, by omega, hc⟩
    · have := lst_lt K v d (i + 1) j h
      exact ⟨by omega, by omega, this.2.2⟩
def mLast (K : kN) (w l : Nat) : Nat := if l = kO K w then 3 else if l / 2 ^ 16 = 16776704 then 2 else 1
def mOne (K : kN) (w f l : Nat) : Nat := if f = 18338657682652659712 then mLast K w l else if lst K f 0 16 = none then 0 else 4 + mLast K w l
def mSrc (K : kN) (f l : Nat) : Nat := if f = 0 ∧ l = 0 then 4 else mOne K 0 f l
def mMany (f l : Nat) : Nat := if f % 2 ^ 48 ≠ 0 ∨ l / 2 ^ 40 ≠ 0 then 8 else if l / 2 ^ 24 ≠ 0 then 9 else if l / 2 ^ 8 = 0 ∧ f / 2 ^ 48 % 256 = 2 then 11 else 10
def mGoal (K : kN) (f l : Nat) : Nat := if f / 2 ^ 56 = 255 then mMany f l else mOne K 1 f l
theorem mLast_le (K : kN) (w l : Nat) : 1 ≤ mLast K w l ∧ mLast K w l ≤ 3 := by
  unfold mLast; split
  · omega
  · split <;> omega
theorem mOne_le (K : kN) (w f l : Nat) : mOne K w f l ≤ 7 ∧ mOne K w f l ≠ 4 := by
  have := mLast_le K w l
  unfold mOne; split
  · omega
  · split <;> omega
theorem mSrc_le (K : kN) (f l : Nat) : mSrc K f l ≤ 7 := by
  have := mOne_le K 0 f l
  unfold mSrc; split <;> omega
theorem mMany_le (f l : Nat) : 8 ≤ mMany f l ∧ mMany f l ≤ 11 := by
  unfold mMany; split
  · omega
  · split
    · omega
    · split <;> omega
theorem mGoal_le (K : kN) (f l : Nat) : mGoal K f l ≤ 11 ∧ mGoal K f l ≠ 4 := by
  have := mOne_le K 1 f l
  have := mMany_le f l
  unfold mGoal; split <;> omega
def tabN (m : Nat) : Nat := [16, 8, 2, 0, 0, 8, 2, 0, 16, 6, 4, 1].getD m 0
theorem tabN_tab : ∀ m, m < 12 → tw_tab m = .int (nI (tabN m)) := by decide +kernel
theorem tabN_le : ∀ m, tabN m ≤ 16 := by
  intro m
  by_cases h : m < 12
  · have h0 : ∀ m, m < 12 → tabN m ≤ 16 := by decide
    exact h0 m h
  · simp [tabN, List.getD_eq_getElem?_getD, List.getElem?_eq_none (show [16, 8, 2, 0, 0, 8, 2, 0, 16, 6, 4, 1].length ≤ m by simp; omega)]
theorem tabN_out {m : Nat} (h : ¬ m < 12) : tabN m = 0 := by
  simp [tabN, List.getD_eq_getElem?_getD, List.getElem?_eq_none (show [16, 8, 2, 0, 0, 8, 2, 0, 16, 6, 4, 1].length ≤ m by simp; omega)]
/-! a packet -/
def isPk (xs : List Nat) : Prop := 40 ≤ xs.length ∧ xs.length ≤ 600 ∧ xs.getD 0 0 / 16 = 6 ∧ nb xs 4 2 = xs.length - 40
def hasP (xs : List Nat) : Prop := xs.getD 6 0 = 17 ∧ 48 ≤ xs.length ∧ nb xs 44 2 = xs.length - 40
def isPkB (xs : List Nat) : Bool := decide (40 ≤ xs.length) && decide (xs.length ≤ 600) && decide (xs.getD 0 0 / 16 = 6) && decide (nb xs 4 2 = xs.length - 40)
def hasPB (xs : List Nat) : Bool := decide (xs.getD 6 0 = 17) && decide (48 ≤ xs.length) && decide (nb xs 44 2 = xs.length - 40)
theorem isPkB_iff (xs : List Nat) : isPkB xs = true ↔ isPk xs := by simp [isPkB, isPk, and_assoc]
theorem hasPB_iff (xs : List Nat) : hasPB xs = true ↔ hasP xs := by simp [hasPB, hasP, and_assoc]
def pkT (xs : List Nat) : Nat := nb xs 0 4 / 2 ^ 20 % 256
def pkL (xs : List Nat) : Nat := nb xs 0 4 % 2 ^ 20
def pkH (xs : List Nat) : Nat := if hasPB xs then 48 else 40
