/-! bytes of any origin unfolded: faults, places, and the packet -/
def uTF (b0 : Nat) : Nat := b0 / 8 % 4
def uPo (b0 : Nat) : Bool := decide (b0 / 4 % 2 = 1)
def uHL (b0 : Nat) : Nat := b0 % 4
def uSrc (b1 : Nat) : Nat := b1 / 16 % 8
def uGoal (b1 : Nat) : Nat := b1 % 16
def tfN (tf : Nat) : Nat := if tf = 0 then 4 else if tf = 1 then 3 else if tf = 2 then 1 else 0
def pfN (p : Nat) : Nat := if p = 0 then 4 else if p = 3 then 1 else 3
def uA1 (b1 s : Nat) : Nat := if b1 / 128 = 1 then s + 3 else s + 2
def uA2 (b0 b1 s : Nat) : Nat := uA1 b1 s + tfN (uTF b0)
def uA4 (b0 b1 s : Nat) : Nat := uA2 b0 b1 s + (if uPo b0 then 0 else 1) + (if uHL b0 = 0 then 1 else 0)
def uA5 (b0 b1 s : Nat) : Nat := uA4 b0 b1 s + tabN (uSrc b1)
def uA6 (b0 b1 s : Nat) : Nat := uA5 b0 b1 s + tabN (uGoal b1)
/-- the byte of the contexts; 0 without one -/
def uCx (bs : List Nat) (b1 s : Nat) : Nat := if b1 / 128 = 1 then bs.getD (s + 2) 0 else 0
def uses (m : Nat) : Bool := decide (4 < m ∧ m < 8)
def uLack (K : kN) (b1 cx : Nat) : Bool := (uses (uSrc b1) && !kT K (cx / 16)) || (uses (uGoal b1) && !kT K (cx % 16))
/-- the traffic's first byte, T, L, and what is to be 0 -/
def uFb (bs : List Nat) (tf a : Nat) : Nat := if tf = 3 then 0 else bs.getD a 0
def uT (bs : List Nat) (tf a : Nat) : Nat := (if tf = 1 then 0 else uFb bs tf a % 64) * 4 + uFb bs tf a / 64
def uL (bs : List Nat) (tf a : Nat) : Nat := if tf = 0 then nb bs (a + 1) 3 else if tf = 1 then nb bs a 3 % 1048576 else 0
def uWr (bs : List Nat) (tf a : Nat) : Nat := if tf = 0 then nb bs (a + 1) 3 / 1048576 else if tf = 1 then bs.getD a 0 / 16 % 4 else 0
def uFm (bs : List Nat) (b0 b1 s : Nat) : Nat := bs.getD (uA6 b0 b1 s) 0
def uA7 (bs : List Nat) (b0 b1 s : Nat) : Nat := if uPo b0 then uA6 b0 b1 s + 1 + pfN (uFm bs b0 b1 s - 240) + 2 else uA6 b0 b1 s
/-- the fault of the head, and its place; 0: none -/
def uFt (K : kN) (bs : List Nat) (s : Nat) : Nat × Nat :=
  let b0 := bs.getD s 0; let b1 := bs.getD (s + 1) 0; let e := bs.length
  if e < s + 1 then (1, e) else if b0 / 32 ≠ 3 then (2, s) else if e < s + 2 then (1, e)
  else if uGoal b1 = 4 ∨ 11 < uGoal b1 then (3, s + 1) else if e < uA1 b1 s then (1, e)
  else if uLack K b1 (uCx bs b1 s) = true then (4, uA1 b1 s - 1) else if e < uA2 b0 b1 s then (1, e)
  else if uWr bs (uTF b0) (uA1 b1 s) ≠ 0 then (5, uA1 b1 s) else if e < uA6 b0 b1 s then (1, e)
  else if uPo b0 = true then (if e < uA6 b0 b1 s + 1 then (1, e) else if uFm bs b0 b1 s < 240 ∨ 243 < uFm bs b0 b1 s then (6, uA6 b0 b1 s) else if e < uA7 bs b0 b1 s then (1, e) else (0, 0))
  else (0, 0)
/-- how many bytes are behind the 40, by what is left or as told -/
def uBe (bs : List Nat) (s : Nat) (o : Option Nat) : Nat := match o with
  | none => bs.length - uA7 bs (bs.getD s 0) (bs.getD (s + 1) 0) s + (if uPo (bs.getD s 0) then 8 else 0)
  | some n => n
def uF (K : kN) (bs : List Nat) (s : Nat) (o : Option Nat) : Nat × Nat :=
  if (uFt K bs s).1 ≠ 0 then uFt K bs s else if 560 < uBe bs s o then (7, bs.length) else (0, 0)
/-- the first eight bytes of an address, the last eight, as numbers -/
def uFe (K : kN) (m cx : Nat) : Nat := if 4 < m ∧ m < 8 then (if cx < 16 ∧ kT K cx = true then kV K cx else 0) else 18338657682652659712
def uLe (K : kN) (m w v : Nat) : Nat := if m % 4 = 1 then v else if m % 4 = 2 then 1099478073344 + v else kO K w
/-- an address: 16 bytes (m: how it is told; w: whose link; cx: its context; a: where it is told) -/
def uAd (K : kN) (m w cx : Nat) (bs : List Nat) (a : Nat) : List Nat :=
  if tabN m = 16 then be (nb bs a 8) 8 ++ be (nb bs (a + 8) 8) 8
  else if m = 11 then [255, 2] ++ List.replicate 13 0 ++ [bs.getD a 0]
  else if 8 < m then [255, bs.getD a 0] ++ List.replicate 6 0 ++ be (nb bs (a + 1) (tabN m - 1)) 8
  else if m = 4 then List.replicate 16 0
  else be (uFe K m cx) 8 ++ be (uLe K m w (nb bs a (tabN m))) 8
/-- both ports as one number -/
def uPn (p v : Nat) : Nat := if p = 1 then v / 256 * 65536 + 61440 + v % 256 else if p = 2 then 61440 * 65536 + v / 65536 * 65536 + v % 65536 else if p = 3 then (61616 + v / 16) * 65536 + 61616 + v % 16 else v
/-- what the head stands for, with n in its places -/
def uHd (K : kN) (bs : List Nat) (s n : Nat) : List Nat :=
  let b0 := bs.getD s 0; let b1 := bs.getD (s + 1) 0; let tf := uTF b0; let a1 := uA1 b1 s; let a2 := uA2 b0 b1 s; let cx := uCx bs b1 s
  be (ff (uT bs tf a1) (uL bs tf a1)) 4 ++ (be n 2 ++ ([if uPo b0 then 17 else bs.getD a2 0] ++ ([if uHL b0 = 0 then bs.getD (a2 + (if uPo b0 then 0 else 1)) 0 else if uHL b0 = 1 then 1 else if uHL b0 = 2 then 64 else 255]
    ++ (uAd K (uSrc b1) 0 (cx / 16) bs (uA4 b0 b1 s) ++ (uAd K (uGoal b1) 1 (cx % 16) bs (uA5 b0 b1 s)
    ++ (if uPo b0 then be (uPn (uFm bs b0 b1 s - 240) (nb bs (uA6 b0 b1 s + 1) (pfN (uFm bs b0 b1 s - 240)))) 4 ++ (be n 2 ++ be (nb bs (uA6 b0 b1 s + 1 + pfN (uFm bs b0 b1 s - 240)) 2) 2) else []))))))
def uPk (K : kN) (bs : List Nat) (s : Nat) (o : Option Nat) : List Nat :=
  uHd K bs s (uBe bs s o) ++ cutD bs (uA7 bs (bs.getD s 0) (bs.getD (s + 1) 0) s) (bs.length - uA7 bs (bs.getD s 0) (bs.getD (s + 1) 0) s)
theorem uAd_len (K : kN) (m w cx : Nat) (bs : List Nat) (a : Nat) : (uAd K m w cx bs a).length = 16 := by
  unfold uAd
  split
  · simp [be_len]
  · split
    · simp
    · split
      · simp [be_len]
      · split <;> simp [be_len]
theorem set_app (A : List Nat) (k x : Nat) : (A ++ List.replicate (k + 1) 0).set A.length x = A ++ [x] ++ List.replicate k 0 := by
  rw [List.set_append_right _ _ (Nat.le_refl _), Nat.sub_self, List.replicate_succ, List.set_cons_zero, List.append_assoc]; rfl
theorem setN_app : ∀ (B A Z : List Nat), B.length ≤ Z.length → setN (A ++ Z) A.length B = A ++ B ++ Z.drop B.length
  | [], A, Z, _ => by simp [setN]
  | b :: B, A, [], h => by simp at h
  | b :: B, A, z :: Z, h => by
    simp only [setN]
    rw [List.set_append_right _ _ (Nat.le_refl _), Nat.sub_self, List.set_cons_zero]
    have e : A ++ b :: Z = (A ++ [b]) ++ Z := by simp
    have l : A.length + 1 = (A ++ [b]).length := by simp
    rw [e, l, setN_app B (A ++ [b]) Z (by simpa using h)]
    simp
theorem setN_rep (A B : List Nat) (k n : Nat) (h : B.length = n) : setN (A ++ List.replicate (n + k) 0) A.length B = A ++ B ++ List.replicate k 0 := by
  rw [setN_app B A _ (by simp [h]), h]
  simp
