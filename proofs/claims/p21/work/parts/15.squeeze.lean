/-! a packet squeezed: the bytes -/
theorem bI_nt {b : Bool} (h : b = true) : nI 1 = bI b := by subst h; rfl
theorem bI_nf {b : Bool} (h : b = false) : nI 0 = bI b := by subst h; rfl
def ff (t l : Nat) : Nat := 1610612736 + t * 1048576 + l
theorem ff_or {t l : Nat} (ht : t < 256) (hl : l < 1048576) : (1610612736 ||| t * 1048576) ||| l = ff t l := by
  have h1 : t * 1048576 + 1610612736 = 1610612736 ||| t * 1048576 := by
    have := Nat.two_pow_add_eq_or_of_lt (i := 28) (b := t * 1048576) (by omega) 6
    simp only [Nat.reducePow, Nat.reduceMul] at this
    omega
  have h2 := Nat.two_pow_add_eq_or_of_lt (i := 20) (b := l) (by omega) (1536 + t)
  simp only [Nat.reducePow] at h2
  rw [← h1, show t * 1048576 + 1610612736 = 1048576 * (1536 + t) by omega, ← h2]
  unfold ff
  omega
def sqTF (t l : Nat) : Nat := if l = 0 then (if t = 0 then 3 else 2) else if t / 4 = 0 then 1 else 0
theorem sqTF_lt (t l : Nat) : sqTF t l < 4 := by
  unfold sqTF; split
  · split <;> omega
  · split <;> omega
def sqHL (h : Nat) : Nat := if h = 1 then 1 else if h = 64 then 2 else if h = 255 then 3 else 0
theorem sqHL_lt (h : Nat) : sqHL h < 4 := by
  unfold sqHL; split
  · omega
  · split
    · omega
    · split <;> omega
def sqTn (t : Nat) : Nat := t % 4 * 64 + t / 4
def sqTr (tf t l : Nat) : List Nat := if tf = 0 then sqTn t :: be l 3 else if tf = 1 then be (sqTn t * 65536 + l) 3 else if tf = 2 then [sqTn t] else []
def sqAd (m f l : Nat) : List Nat := if tabN m = 16 then be f 8 ++ be l 8 else if m = 9 ∨ m = 10 then f / 2 ^ 48 % 256 :: be l (tabN m - 1) else be l (tabN m)
def sqPo (o1 o2 ck : Nat) : List Nat := (if o1 / 16 = 3851 ∧ o2 / 16 = 3851 then [243, o1 % 16 * 16 + o2 % 16] else if o2 / 256 = 240 then 241 :: (be o1 2 ++ [o2 % 256]) else if o1 / 256 = 240 then 242 :: o1 % 256 :: be o2 2 else 240 :: (be o1 2 ++ be o2 2)) ++ be ck 2
/-- the context's number, 0 where none is used -/
def ctxN (K : kN) (m f : Nat) : Nat := if 4 < m ∧ m < 8 then (lst K f 0 16).getD 0 else 0
theorem ctxN_lt (K : kN) (m f : Nat) : ctxN K m f < 16 := by
  unfold ctxN
  split
  · cases h : lst K f 0 16 with
    | none => simp
    | some i => have := lst_lt K f 16 0 i h; simp; omega
  · omega
theorem mOne_ctx {K : kN} {w f l : Nat} (h : 4 < mOne K w f l) : lst K f 0 16 ≠ none := by
  have := mLast_le K w l
  intro hn
  unfold mOne at h
  split at h
  · omega
  · omega
theorem mSrc_ctx {K : kN} {f l : Nat} (h : 4 < mSrc K f l) : lst K f 0 16 ≠ none := by
  unfold mSrc at h
  split at h
  · omega
  · exact mOne_ctx h
theorem mGoal_ctx {K : kN} {f l : Nat} (h : 4 < mGoal K f l) (h2 : mGoal K f l < 8) : lst K f 0 16 ≠ none := by
  unfold mGoal at h h2
  split at h
  · rename_i h3
    rw [if_pos h3] at h2
    have := mMany_le f l
    omega
  · exact mOne_ctx h
def sqB1 (tf hl : Nat) (ports : Bool) : Nat := 96 + tf * 8 + (if ports then 4 else 0) + hl
def sqB2 (c src goal : Nat) : Nat := (if c = 0 then 0 else 128) + src * 16 + goal
theorem sqB1_or : ∀ tf, tf < 4 → ∀ hl, hl < 4 → ((96 ||| tf * 8) ||| 4) ||| hl = sqB1 tf hl true ∧ ((96 ||| tf * 8) ||| 0) ||| hl = sqB1 tf hl false ∧ sqB1 tf hl true < 256 ∧ sqB1 tf hl false < 256 := by decide +kernel
theorem sqB2_or : ∀ src, src < 8 → ∀ goal, goal < 16 → (128 ||| src * 16) ||| goal = 128 + src * 16 + goal ∧ (0 ||| src * 16) ||| goal = 0 + src * 16 + goal ∧ 128 + src * 16 + goal < 256 := by decide +kernel
/-- the head of what a packet is squeezed to; the rest of the packet comes behind it -/
def sqHd (K : kN) (xs : List Nat) : List Nat :=
  let t := pkT xs; let l := pkL xs; let tf := sqTF t l; let hl := sqHL (xs.getD 7 0)
  let f := nb xs 8 8; let e := nb xs 16 8; let gf := nb xs 24 8; let ge := nb xs 32 8
  let src := mSrc K f e; let goal := mGoal K gf ge; let c := 16 * ctxN K src f + ctxN K goal gf
  [sqB1 tf hl (hasPB xs)] ++ ([sqB2 c src goal] ++ ((if c = 0 then [] else [c]) ++ (sqTr tf t l ++ ((if hasPB xs then [] else [xs.getD 6 0]) ++ ((if hl = 0 then [xs.getD 7 0] else []) ++ (sqAd src f e ++ (sqAd goal gf ge ++ (if hasPB xs then sqPo (nb xs 40 2) (nb xs 42 2) (nb xs 46 2) else []))))))))
def sqAll (K : kN) (xs : List Nat) : List Nat := sqHd K xs ++ cutD xs (pkH xs) (xs.length - pkH xs)
theorem sqAd_len (m f l : Nat) : (sqAd m f l).length ≤ 16 := by
  have h := tabN_le m
  unfold sqAd
  split
  · simp [be_len]
  · split
    · simp only [List.length_cons, be_len]; omega
    · simp [be_len]; exact h
theorem sqTr_len (tf t l : Nat) : (sqTr tf t l).length ≤ 4 := by
  unfold sqTr
  split
  · simp [be_len]
  · split
    · simp [be_len]
    · split <;> simp
theorem sqPo_len (a b c : Nat) : (sqPo a b c).length ≤ 7 := by
  unfold sqPo
  split
  · simp [be_len]
  · split
    · simp [be_len]
    · split <;> simp [be_len]
theorem sqHd_len (K : kN) (xs : List Nat) : (sqHd K xs).length ≤ 48 := by
  have h1 := sqTr_len (sqTF (pkT xs) (pkL xs)) (pkT xs) (pkL xs)
  have h2 := sqAd_len (mSrc K (nb xs 8 8) (nb xs 16 8)) (nb xs 8 8) (nb xs 16 8)
  have h3 := sqAd_len (mGoal K (nb xs 24 8) (nb xs 32 8)) (nb xs 24 8) (nb xs 32 8)
  have h4 := sqPo_len (nb xs 40 2) (nb xs 42 2) (nb xs 46 2)
  have l1 : ∀ (p : Prop) [Decidable p] (c : Nat), (if p then [] else [c] : List Nat).length ≤ 1 := fun p _ c => by split <;> simp
  have l2 : ∀ (p : Prop) [Decidable p] (c : Nat), (if p then [c] else [] : List Nat).length ≤ 1 := fun p _ c => by split <;> simp
  have h5 := l1 (16 * ctxN K (mSrc K (nb xs 8 8) (nb xs 16 8)) (nb xs 8 8) + ctxN K (mGoal K (nb xs 24 8) (nb xs 32 8)) (nb xs 24 8) = 0) (16 * ctxN K (mSrc K (nb xs 8 8) (nb xs 16 8)) (nb xs 8 8) + ctxN K (mGoal K (nb xs 24 8) (nb xs 32 8)) (nb xs 24 8))
  have h6 := l2 (sqHL (xs.getD 7 0) = 0) (xs.getD 7 0)
  simp only [sqHd, List.length_append, List.length_cons, List.length_nil]
  by_cases hp : hasPB xs = true
  · simp only [hp, if_true, List.length_nil]
    omega
  · simp only [hp, List.length_cons, List.length_nil, Bool.false_eq_true, if_false]
    omega
theorem sqAll_len (K : kN) {xs : List Nat} (h : xs.length ≤ 600) : (sqAll K xs).length ≤ 640 := by
  have := sqHd_len K xs
  simp only [sqAll, List.length_append, cutD_len, pkH]
  split <;> omega
