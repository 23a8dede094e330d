/-! bytes, numbers and rows, as lists -/
theorem tn_inc1 (a : Nat) : nI a + Int32.ofInt 1 = nI (a + 1) := nI_1 a
theorem tn_inc14 (a : Nat) : nI a + Int32.ofInt 14 = nI (a + 14) := nI_add a 14
theorem bI_of_t {p : Prop} [Decidable p] (h : p) : nI 1 = bI (decide p) := by simp [h, bI]; rfl
theorem bI_of_f {p : Prop} [Decidable p] (h : ¬ p) : nI 0 = bI (decide p) := by simp [h, bI]; rfl
theorem tw_uR_self (S : tw_S) (r : Nat) : tw_uR S r (tw_R S r) = S := by
  have : (fun q => if q = r then tw_R S r else S.1 q) = S.1 := by
    funext q
    by_cases h : q = r
    · subst h; simp [tw_R]
    · simp [h]
  simp only [tw_uR, this]
theorem tw_uR_uR (S : tw_S) (r : Nat) (xs ys : List Nat) : tw_uR (tw_uR S r xs) r ys = tw_uR S r ys := by
  simp only [tw_uR, Prod.mk.injEq, and_true]
  funext q
  by_cases h : q = r <;> simp [h]
theorem tq_uR_same (S : tw_S) (r : Nat) (xs : List Nat) : tw_R (tw_uR S r xs) r = xs := by simp [tw_R, tw_uR]
theorem tq_uR_ne (S : tw_S) {r q : Nat} (xs : List Nat) (h : q ≠ r) : tw_R (tw_uR S r xs) q = tw_R S q := by simp [tw_R, tw_uR, h]
theorem tk_tk {α : Type} (c : Nat) (l m : List α) : (l.take c ++ m).take c = (l ++ m).take c := by
  by_cases h : c ≤ l.length
  · rw [List.take_append_of_le_length (by simp; omega), List.take_append_of_le_length h, List.take_take, Nat.min_self]
  · rw [List.take_of_length_le (l := l) (by omega)]
theorem getD_some {α : Type} {l : List α} {i : Nat} (h : i < l.length) (d : α) : l[i]? = some (l.getD i d) := by
  rw [List.getD_eq_getElem?_getD, List.getElem?_eq_getElem h]; rfl
theorem getD_out {α : Type} {l : List α} {i : Nat} (h : ¬ i < l.length) (d : α) : l.getD i d = d := by
  rw [List.getD_eq_getElem?_getD, List.getElem?_eq_none (by omega)]; rfl
theorem getD_in {l : List Nat} (hb : ∀ x ∈ l, x < 256) (i : Nat) : l.getD i 0 < 256 := by
  by_cases h : i < l.length
  · exact hb _ (List.mem_of_getElem? (getD_some h 0))
  · rw [getD_out h]; decide
theorem set_out {α : Type} {l : List α} {i : Nat} {x : α} (h : ¬ i < l.length) : l.set i x = l := List.set_eq_of_length_le (by omega)
/-- k bytes of a row from a place on, as one number -/
def nb (xs : List Nat) (f : Nat) : Nat → Nat
  | 0 => 0
  | k + 1 => nb xs f k * 256 + xs.getD (f + k) 0
theorem nb_lt {xs : List Nat} (hb : ∀ x ∈ xs, x < 256) (f : Nat) : ∀ k, nb xs f k < 256 ^ k
  | 0 => by simp [nb]
  | k + 1 => by
    have h1 := nb_lt hb f k
    have h2 := getD_in hb (f + k)
    simp only [nb, Nat.pow_succ]
    omega
theorem p256 {k n : Nat} (h : k ≤ n) : 256 ^ k ≤ 256 ^ n := Nat.pow_le_pow_right (by decide) h
theorem or256 {a x : Nat} (h : x < 256) : a * 256 ||| x = a * 256 + x := by
  have := Nat.two_pow_add_eq_or_of_lt (i := 8) (b := x) h a
  simp only [Nat.reducePow] at this
  rw [Nat.mul_comm a 256, this]
/-- a number as n bytes -/
def be (v n : Nat) : List Nat := (List.range n).map (fun i => v / 2 ^ (8 * (n - 1 - i)) % 256)
theorem be_len (v n : Nat) : (be v n).length = n := by simp [be]
theorem be_lt {v n x : Nat} (h : x ∈ be v n) : x < 256 := by
  simp only [be, List.mem_map] at h
  obtain ⟨i, -, rfl⟩ := h
  exact Nat.mod_lt _ (by decide)
theorem be_take {v n i : Nat} (h : i < n) : (be v n).take (i + 1) = (be v n).take i ++ [v / 2 ^ (8 * (n - 1 - i)) % 256] := by
  rw [List.take_succ, be, List.getElem?_map, List.getElem?_range h]; rfl
/-- bytes over bytes, from a place on -/
def setN (xs : List Nat) (f : Nat) : List Nat → List Nat
  | [] => xs
  | b :: bs => setN (xs.set f b) (f + 1) bs
theorem setN_len : ∀ (bs xs : List Nat) (f : Nat), (setN xs f bs).length = xs.length
  | [], xs, f => rfl
  | b :: bs, xs, f => by simp [setN, setN_len bs]
theorem setN_snoc : ∀ (bs xs : List Nat) (f b : Nat), setN xs f (bs ++ [b]) = (setN xs f bs).set (f + bs.length) b
  | [], xs, f, b => by simp [setN]
  | c :: bs, xs, f, b => by
    simp only [List.cons_append, setN]
    rw [setN_snoc bs (xs.set f c) (f + 1) b]
    simp only [List.length_cons]
    rw [show f + 1 + bs.length = f + (bs.length + 1) by omega]
/-- a part of a row, 0 behind its end -/
def cutD (xs : List Nat) (a n : Nat) : List Nat := (List.range n).map (fun i => xs.getD (a + i) 0)
theorem cutD_len (xs : List Nat) (a n : Nat) : (cutD xs a n).length = n := by simp [cutD]
theorem cutD_succ (xs : List Nat) (a n : Nat) : cutD xs a (n + 1) = cutD xs a n ++ [xs.getD (a + n) 0] := by simp [cutD, List.range_succ]
theorem cutD_all (xs : List Nat) : cutD xs 0 xs.length = xs := by
  apply List.ext_getElem?
  intro i
  simp only [cutD, List.getElem?_map, Nat.zero_add]
  by_cases h : i < xs.length
  · rw [List.getElem?_range h, getD_some h 0]; rfl
  · rw [List.getElem?_eq_none (by simp; omega), List.getElem?_eq_none (by omega)]; rfl
theorem rep_succ (n : Nat) : List.replicate (n + 1) 0 = List.replicate n 0 ++ [0] := by
  rw [List.replicate_succ']
theorem m256 (v k : Nat) : v % 2 ^ 32 % 256 = v % 256 := by omega
