/-! THE LAYER: the world as one state by roles; each row turns the judgement at an instruction into the judgement at the next -/
abbrev tw_S : Type := (Nat → List Nat) × (Nat → Nat → Int32) × (Nat → Nat → Int64) × (Nat → Nat → Int32) × (Nat → Nat → Int64)
def tw_R (S : tw_S) : Nat → List Nat := S.1
def tw_I (S : tw_S) : Nat → Nat → Int32 := S.2.1
def tw_J (S : tw_S) : Nat → Nat → Int64 := S.2.2.1
def tw_A (S : tw_S) : Nat → Nat → Int32 := S.2.2.2.1
def tw_B (S : tw_S) : Nat → Nat → Int64 := S.2.2.2.2
def tw_uR (S : tw_S) (r : Nat) (xs : List Nat) : tw_S := (fun q => if q = r then xs else S.1 q, S.2)
def tw_uI (S : tw_S) (r k : Nat) (x : Int32) : tw_S := (S.1, (fun q j => if q = r ∧ j = k then x else S.2.1 q j), S.2.2)
def tw_uJ (S : tw_S) (r k : Nat) (x : Int64) : tw_S := (S.1, S.2.1, (fun q j => if q = r ∧ j = k then x else S.2.2.1 q j), S.2.2.2)
def tw_uA (S : tw_S) (r k : Nat) (x : Int32) : tw_S := (S.1, S.2.1, S.2.2.1, (fun q j => if q = r ∧ j = k then x else S.2.2.2.1 q j), S.2.2.2.2)
def tw_uB (S : tw_S) (r k : Nat) (x : Int64) : tw_S := (S.1, S.2.1, S.2.2.1, S.2.2.2.1, (fun q j => if q = r ∧ j = k then x else S.2.2.2.2 q j))
def tw_wI (S : tw_S) (r : Nat) (F : Nat → Int32) : tw_S := (S.1, (fun q j => if q = r then F j else S.2.1 q j), S.2.2)
def tw_wA (S : tw_S) (r : Nat) (F : Nat → Int32) : tw_S := (S.1, S.2.1, S.2.2.1, (fun q j => if q = r then F j else S.2.2.2.1 q j), S.2.2.2.2)
theorem tq_R_uR (S : tw_S) (r : Nat) (xs : List Nat) (q : Nat) : tw_R (tw_uR S r xs) q = if q = r then xs else tw_R S q := rfl
theorem tq_I_uR (S : tw_S) (r : Nat) (xs : List Nat) : tw_I (tw_uR S r xs) = tw_I S := rfl
theorem tq_J_uR (S : tw_S) (r : Nat) (xs : List Nat) : tw_J (tw_uR S r xs) = tw_J S := rfl
theorem tq_A_uR (S : tw_S) (r : Nat) (xs : List Nat) : tw_A (tw_uR S r xs) = tw_A S := rfl
theorem tq_B_uR (S : tw_S) (r : Nat) (xs : List Nat) : tw_B (tw_uR S r xs) = tw_B S := rfl
theorem tq_R_uI (S : tw_S) (r k : Nat) (x : Int32) : tw_R (tw_uI S r k x) = tw_R S := rfl
theorem tq_I_uI (S : tw_S) (r k : Nat) (x : Int32) (q j : Nat) : tw_I (tw_uI S r k x) q j = if q = r ∧ j = k then x else tw_I S q j := rfl
theorem tq_J_uI (S : tw_S) (r k : Nat) (x : Int32) : tw_J (tw_uI S r k x) = tw_J S := rfl
theorem tq_A_uI (S : tw_S) (r k : Nat) (x : Int32) : tw_A (tw_uI S r k x) = tw_A S := rfl
theorem tq_B_uI (S : tw_S) (r k : Nat) (x : Int32) : tw_B (tw_uI S r k x) = tw_B S := rfl
theorem tq_R_uJ (S : tw_S) (r k : Nat) (x : Int64) : tw_R (tw_uJ S r k x) = tw_R S := rfl
theorem tq_I_uJ (S : tw_S) (r k : Nat) (x : Int64) : tw_I (tw_uJ S r k x) = tw_I S := rfl
theorem tq_J_uJ (S : tw_S) (r k : Nat) (x : Int64) (q j : Nat) : tw_J (tw_uJ S r k x) q j = if q = r ∧ j = k then x else tw_J S q j := rfl
theorem tq_A_uJ (S : tw_S) (r k : Nat) (x : Int64) : tw_A (tw_uJ S r k x) = tw_A S := rfl
theorem tq_B_uJ (S : tw_S) (r k : Nat) (x : Int64) : tw_B (tw_uJ S r k x) = tw_B S := rfl
theorem tq_R_uA (S : tw_S) (r k : Nat) (x : Int32) : tw_R (tw_uA S r k x) = tw_R S := rfl
theorem tq_I_uA (S : tw_S) (r k : Nat) (x : Int32) : tw_I (tw_uA S r k x) = tw_I S := rfl
theorem tq_J_uA (S : tw_S) (r k : Nat) (x : Int32) : tw_J (tw_uA S r k x) = tw_J S := rfl
theorem tq_A_uA (S : tw_S) (r k : Nat) (x : Int32) (q j : Nat) : tw_A (tw_uA S r k x) q j = if q = r ∧ j = k then x else tw_A S q j := rfl
theorem tq_B_uA (S : tw_S) (r k : Nat) (x : Int32) : tw_B (tw_uA S r k x) = tw_B S := rfl
theorem tq_R_uB (S : tw_S) (r k : Nat) (x : Int64) : tw_R (tw_uB S r k x) = tw_R S := rfl
theorem tq_I_uB (S : tw_S) (r k : Nat) (x : Int64) : tw_I (tw_uB S r k x) = tw_I S := rfl
theorem tq_J_uB (S : tw_S) (r k : Nat) (x : Int64) : tw_J (tw_uB S r k x) = tw_J S := rfl
theorem tq_A_uB (S : tw_S) (r k : Nat) (x : Int64) : tw_A (tw_uB S r k x) = tw_A S := rfl
theorem tq_B_uB (S : tw_S) (r k : Nat) (x : Int64) (q j : Nat) : tw_B (tw_uB S r k x) q j = if q = r ∧ j = k then x else tw_B S q j := rfl
theorem tq_R_wI (S : tw_S) (r : Nat) (F : Nat → Int32) : tw_R (tw_wI S r F) = tw_R S := rfl
theorem tq_I_wI (S : tw_S) (r : Nat) (F : Nat → Int32) (q j : Nat) : tw_I (tw_wI S r F) q j = if q = r then F j else tw_I S q j := rfl
theorem tq_J_wI (S : tw_S) (r : Nat) (F : Nat → Int32) : tw_J (tw_wI S r F) = tw_J S := rfl
theorem tq_A_wI (S : tw_S) (r : Nat) (F : Nat → Int32) : tw_A (tw_wI S r F) = tw_A S := rfl
theorem tq_B_wI (S : tw_S) (r : Nat) (F : Nat → Int32) : tw_B (tw_wI S r F) = tw_B S := rfl
theorem tq_R_wA (S : tw_S) (r : Nat) (F : Nat → Int32) : tw_R (tw_wA S r F) = tw_R S := rfl
theorem tq_I_wA (S : tw_S) (r : Nat) (F : Nat → Int32) : tw_I (tw_wA S r F) = tw_I S := rfl
theorem tq_J_wA (S : tw_S) (r : Nat) (F : Nat → Int32) : tw_J (tw_wA S r F) = tw_J S := rfl
theorem tq_A_wA (S : tw_S) (r : Nat) (F : Nat → Int32) (q j : Nat) : tw_A (tw_wA S r F) q j = if q = r then F j else tw_A S q j := rfl
theorem tq_B_wA (S : tw_S) (r : Nat) (F : Nat → Int32) : tw_B (tw_wA S r F) = tw_B S := rfl
/-! the shape: objects by role (the class's place in vwCl, a code a field: 0 int, 1 long, 2 a row's length, 3 + r the role r), arrays by role (kind, length) -/
def tw_isRow (r : Nat) : Bool := r == 1 || r == 3 || r == 10 || r == 15 || r == 17 || (decide (22 ≤ r) && decide (r < 34) && (r - 22) % 4 == 1) || (decide (34 ≤ r) && decide (r < 114) && r % 2 == 0)
def tw_isHeap (r : Nat) : Bool := decide (22 ≤ r) && decide (r < 34) && (r - 22) % 4 == 0
def tw_cap (r : Nat) : Nat := if r = 1 ∨ r = 3 ∨ r = 15 then 640 else if r = 10 ∨ (22 ≤ r ∧ r < 34) then 600 else 120
def tw_sh (r : Nat) : Option (Nat × List Nat) :=
  if tw_isRow r = true then some (5, [r + 4, 2]) else if tw_isHeap r = true then some (2, [r + 4, r + 6, 0, 0, 0, 0, 0, 0]) else match r with
  | 0 => some (8, [4, 6, 8, 11, 12, 15, 17, 22, 24])
  | 5 => some (3, [9, 10, 1, 1])
  | 8 => some (6, [8])
  | 9 => some (7, [8, 13, 0, 0, 0, 0, 0, 0, 0, 0])
  | 12 => some (1, [16, 0])
  | 14 => some (0, [11, 18, 20])
  | 19 => some (4, [12, 23, 0, 0, 0, 0, 0])
  | _ => none
def tw_ar (r : Nat) : Option (Nat × Nat) :=
  if tw_isRow (r - 1) = true ∧ 1 ≤ r then some (3, tw_cap (r - 1)) else if 22 ≤ r ∧ r < 34 ∧ (r - 22) % 4 = 3 then some (0, 75) else match r with
  | 6 => some (1, 16)
  | 7 => some (2, 16)
  | 13 => some (4, 40)
  | 20 => some (5, 3)
  | 21 => some (0, 8)
  | _ => none
def tw_fl (f : Nat → Nat → Value) : Nat → List Nat → List Value
  | _, [] => []
  | k, c :: cs => f k c :: tw_fl f (k + 1) cs
theorem tw_fl_get (f : Nat → Nat → Value) : ∀ (cs : List Nat) (k j : Nat), (tw_fl f k cs)[j]? = cs[j]?.map (f (k + j))
  | [], k, j => by simp [tw_fl]
  | c :: cs, k, 0 => by simp [tw_fl]
  | c :: cs, k, j + 1 => by
    simp only [tw_fl, List.getElem?_cons_succ]
    rw [tw_fl_get f cs (k + 1) j, show k + 1 + j = k + (j + 1) by omega]
theorem tw_fl_len (f : Nat → Nat → Value) : ∀ (cs : List Nat) (k : Nat), (tw_fl f k cs).length = cs.length
  | [], k => rfl
  | c :: cs, k => by simp [tw_fl, tw_fl_len f cs (k + 1)]
theorem tw_fl_set {f g : Nat → Nat → Value} {cs : List Nat} {k : Nat} {v : Value} (h : ∀ j c, cs[j]? = some c → g j c = if j = k then v else f j c) : (tw_fl f 0 cs).set k v = tw_fl g 0 cs := by
  apply List.ext_getElem?
  intro j
  rw [tw_fl_get g cs 0 j, Nat.zero_add]
  by_cases hj : j = k
  · subst hj
    cases hc : cs[j]? with
    | none =>
      have : ¬ j < cs.length := fun q => by rw [List.getElem?_eq_getElem q] at hc; cases hc
      rw [List.getElem?_set]
      simp [tw_fl_len, this]
    | some c =>
      have hl : j < cs.length := (List.getElem?_eq_some_iff.mp hc).1
      rw [List.getElem?_set_self (by rw [tw_fl_len]; exact hl)]
      simp [h j c hc]
  · rw [List.getElem?_set_ne (Ne.symm hj), tw_fl_get f cs 0 j, Nat.zero_add]
    cases hc : cs[j]? with
    | none => rfl
    | some c => simp [h j c hc, hj]
theorem tw_fl_eq {f g : Nat → Nat → Value} {cs : List Nat} (h : ∀ j c, cs[j]? = some c → g j c = f j c) : tw_fl f 0 cs = tw_fl g 0 cs := by
  apply List.ext_getElem?
  intro j
  rw [tw_fl_get g cs 0 j, tw_fl_get f cs 0 j, Nat.zero_add]
  cases hc : cs[j]? with
  | none => rfl
  | some c => simp [h j c hc]
def tw_fv (ad : Nat → Nat) (S : tw_S) (r k c : Nat) : Value := if c = 0 then .int (tw_I S r k) else if c = 1 then .long (tw_J S r k) else if c = 2 then .int (nI (tw_R S r).length) else .ref (ad (c - 3))
/-! what is fixed over the whole claim: the launch, the classes, the array classes, the addresses by role, which roles there are, the table's address, all addresses -/
abbrev tw_G : Type := Launch × va_G × (Nat → ClassId) × (Nat → Nat) × (Nat → Prop) × (Nat × Nat × Nat × (Nat → Int32)) × List Nat
def tw_l (G : tw_G) : Launch := G.1
def tw_D (G : tw_G) : va_G := G.2.1
def tw_cy (G : tw_G) : Nat → ClassId := G.2.2.1
def tw_ad (G : tw_G) : Nat → Nat := G.2.2.2.1
def tw_P (G : tw_G) : Nat → Prop := G.2.2.2.2.1
def tw_t0 (G : tw_G) : Nat := G.2.2.2.2.2.1.1
/-- the law's script: where it lies, how many, what it holds -/
def tw_sb (G : tw_G) : Nat := G.2.2.2.2.2.1.2.1
def tw_sn (G : tw_G) : Nat := G.2.2.2.2.2.1.2.2.1
def tw_sx (G : tw_G) : Nat → Int32 := G.2.2.2.2.2.1.2.2.2
def tw_LA (G : tw_G) : List Nat := G.2.2.2.2.2.2
def tw_tys (G : tw_G) : List (ClassId × FieldType) := [(tw_cy G 0, .int), (tw_cy G 1, .boolean), (tw_cy G 2, .long), (tw_cy G 4, .object "ShortFrames$Row"), (tw_cy G 5, .object "ShortFrames$Heap")]
/-- the cell of a role -/
def tw_en (G : tw_G) (S : tw_S) (r : Nat) (e : va_E) : Prop :=
  match tw_sh r, tw_ar r with
  | some (ci, cs), _ => e = .inr (ci, tw_fl (fun k c => tw_fv (tw_ad G) S r k c) 0 cs)
  | none, some (0, n) => e = .inl (tw_cy G 0, n, .inl (tw_A S r))
  | none, some (1, n) => e = .inl (tw_cy G 1, n, .inl (tw_A S r))
  | none, some (2, n) => e = .inl (tw_cy G 2, n, .inr (.inl (tw_B S r)))
  | none, some (3, n) => ∃ g : Nat → Int32, e = .inl (tw_cy G 0, n, .inl g) ∧ ∀ (i x : Nat), (tw_R S (r - 1))[i]? = some x → g i = nI x
  | none, some (4, n) => e = .inl (tw_cy G 4, n, .inr (.inr (.inr (.inr (fun i => some (tw_ad G (34 + 2 * i)))))))
  | none, some (_, n) => e = .inl (tw_cy G 5, n, .inr (.inr (.inr (.inr (fun i => some (tw_ad G (22 + 4 * i)))))))
  | none, none => True
def tw_ag (r : Nat) (S S' : tw_S) : Prop := tw_R S' r = tw_R S r ∧ tw_R S' (r - 1) = tw_R S (r - 1) ∧ tw_I S' r = tw_I S r ∧ tw_J S' r = tw_J S r ∧ tw_A S' r = tw_A S r ∧ tw_B S' r = tw_B S r
theorem tw_en_ag {G : tw_G} {S S' : tw_S} {r : Nat} {e : va_E} (h : tw_ag r S S') (he : tw_en G S r e) : tw_en G S' r e := by
  obtain ⟨h1, h2, h3, h4, h5, h6⟩ := h
  have hf : ∀ k c, tw_fv (tw_ad G) S' r k c = tw_fv (tw_ad G) S r k c := fun k c => by simp only [tw_fv, h1, h3, h4]
  unfold tw_en at he ⊢
  simp only [hf, h2, h5, h6]
  exact he
def tw_wf (G : tw_G) (S : tw_S) : Prop := ∀ r, tw_P G r → tw_isRow r = true → (tw_R S r).length ≤ tw_cap r ∧ ∀ x ∈ tw_R S r, x < 256
def tw_W (G : tw_G) (S : tw_S) (H : Heap) : Prop := tw_wf G S ∧ ∃ f : Nat → va_E, va_P (tw_D G) vwCl (va_pl (tw_LA G) f) H ∧ ∀ r, tw_P G r → tw_en G S r (f (tw_ad G r))
def tw_tab : Nat → Value := fun j => .int ([16, 8, 2, 0, 0, 8, 2, 0, 16, 6, 4, 1].getD j 0)
/-- the links to private members of a nest mate -/
def tw_NW (U : State) : Prop := va_Nw (.fieldLinkNest RX10 183 RX6 "whole" "I" RX10) U ∧ va_Nw (.fieldLinkNest RX10 187 RX6 "dropped" "I" RX10) U ∧ va_Nw (.fieldLinkNest RX10 190 RX6 "late" "I" RX10) U ∧ va_Nw (.fieldLinkNest RX10 193 RX6 "anew" "I" RX10) U ∧ va_Nw (.fieldLinkNest RX10 196 RX6 "clock" "I" RX10) U ∧ va_Nw (.methodLinkNest RX10 9 yX3_init RX10) U ∧ va_Nw (.methodLinkNest RX6 21 yX2_init RX10) U
theorem tw_NW_warm {s U : State} (h : s.WarmedH U.vm) (g : tw_NW s) : tw_NW U := ⟨va_Nw.warmF h g.1, va_Nw.warmF h g.2.1, va_Nw.warmF h g.2.2.1, va_Nw.warmF h g.2.2.2.1, va_Nw.warmF h g.2.2.2.2.1, va_Nw.warmM h g.2.2.2.2.2.1, va_Nw.warmM h g.2.2.2.2.2.2⟩
theorem tw_NW_same {s U : State} (h : s.vm = U.vm) (g : tw_NW s) : tw_NW U := ⟨va_Nw.same rfl h g.1, va_Nw.same rfl h g.2.1, va_Nw.same rfl h g.2.2.1, va_Nw.same rfl h g.2.2.2.1, va_Nw.same rfl h g.2.2.2.2.1, va_Nw.same rfl h g.2.2.2.2.2.1, va_Nw.same rfl h g.2.2.2.2.2.2⟩
def tw_Z (G : tw_G) (A : Nat → Prop) (U : State) (H : Heap) : Prop := (va_Z "ShortFrames$Mode" "BYTES" "[I" (.ref (tw_t0 G)) A U H ∧ tw_NW U) ∧ va_T .int (tw_t0 G) 12 tw_tab A U H ∧ va_T .int (tw_sb G) (tw_sn G) (fun j => .int (tw_sx G j)) A U H
def tw_E (G : tw_G) (A : Nat → Prop) (U : State) : Prop := va_K (tw_D G) vwCl (tw_tys G) U ∧ (∀ f, va_D A (va_pl (tw_LA G) f)) ∧ (∀ r, tw_P G r → tw_ad G r ∈ tw_LA G) ∧ ∀ r r', tw_P G r → tw_P G r' → tw_ad G r = tw_ad G r' → r = r'
def tw_AA (G : tw_G) (sz : Nat) : Nat → Prop := fun q => q ∈ tw_LA G ∨ sz ≤ q
def tw_Pc (G : tw_G) (sz : Nat) (av : List Value) (S : tw_S) : Array Value → State → Prop := va_Pc av (fun U => U.heap.size = sz ∧ tw_W G S U.heap ∧ tw_E G (tw_AA G sz) U ∧ tw_Z G (tw_AA G sz) U U.heap)
def tw_Qc {α : Type} (G : tw_G) (sz : Nat) (inj : α → Option Value) (post : α → tw_S → Prop) : Array Value → State → Outcome → State → Prop := fun _ st oc t => (∃ (v : α) (S' : tw_S), oc = .returned (inj v) ∧ post v S' ∧ tw_W G S' t.heap) ∧ va_F (tw_AA G sz) st t
/-- a method's contract -/
def tw_M {α : Type} (G : tw_G) (y : MethodName) (bytes : ByteArray) (maxL : Nat) (ret : Option FieldType) (fr lo : Nat) (av : List Value) (S : tw_S) (inj : α → Option Value) (post : α → tw_S → Prop) : Prop :=
  ∀ sz : Nat, Met (tw_l G) y (.code y bytes maxL ret :: lw_g) ({ frames := fr, cells := 0, slots := 0, locals := lo }) (tw_Pc G sz av S) (tw_Qc G sz inj post) 0 0 (tw_AA G sz)
/-! a method's body: program, environment, room, state at the entry, method, arguments, frames below, the method's own, its code, how many locals, what may change, cells, slots, the end -/
abbrev tw_X : Type := Program × Env × Room × State × MethodId × Array Value × List Frame × Method × Code × Nat × (Nat → Prop) × Nat × Nat × (State → Prop)
def tx_p (X : tw_X) : Program := X.1
def tx_e (X : tw_X) : Env := X.2.1
def tx_R (X : tw_X) : Room := X.2.2.1
def tx_s (X : tw_X) : State := X.2.2.2.1
def tx_m (X : tw_X) : MethodId := X.2.2.2.2.1
def tx_a (X : tw_X) : Array Value := X.2.2.2.2.2.1
def tx_b (X : tw_X) : List Frame := X.2.2.2.2.2.2.1
def tx_t (X : tw_X) : Method := X.2.2.2.2.2.2.2.1
def tx_c (X : tw_X) : Code := X.2.2.2.2.2.2.2.2.1
def tx_n (X : tw_X) : Nat := X.2.2.2.2.2.2.2.2.2.1
def tx_A (X : tw_X) : Nat → Prop := X.2.2.2.2.2.2.2.2.2.2.1
def tx_k (X : tw_X) : Nat := X.2.2.2.2.2.2.2.2.2.2.2.1
def tx_z (X : tw_X) : Nat := X.2.2.2.2.2.2.2.2.2.2.2.2.1
def tx_Q (X : tw_X) : State → Prop := X.2.2.2.2.2.2.2.2.2.2.2.2.2
abbrev tx_W (G : tw_G) (X : tw_X) (H : Heap) (locs : List Loc) (pc : Nat) (ls : Array Slot) (st : List Value) : Prop := W (tx_p X) (tw_l G) (tx_e X) (tx_R X) (tx_s X) (tx_m X) (tx_a X) (tx_b X) (tx_t X) (tx_c X) H locs (tx_k X) (tx_z X) (tx_Q X) (F0 (tx_m X) pc ls st)
def TW (G : tw_G) (X : tw_X) (S : tw_S) (L : List (Nat × Value)) (pc : Nat) (st : List Value) : Prop := ∀ (H : Heap) (locs : List Loc) (ls : Array Slot), tw_W G S H → va_S (tx_A X) (tx_s X).heap H locs → lv_has ls (tx_n X) L → tx_W G X H locs pc ls st
def tw_C (G : tw_G) (X : tw_X) (cc : ByteArray) (own : String) : Prop := (tx_p X).tables.exec = Jvm.exec ∧ (tx_c X).code = cc ∧ (tx_c X).maxLocals = tx_n X ∧ (tx_s X).vm.findClass own = some (tx_m X).cls ∧ (∀ w ∈ lw_g, w.before (tx_a X) (tx_s X) = true) ∧ tw_E G (tx_A X) (tx_s X) ∧ tw_Z G (tx_A X) (tx_s X) (tx_s X).heap ∧ (∀ q, (tx_s X).heap.size ≤ q → tx_A X q) ∧ (tx_t X).locks = false
/-- the numbers of a body: locals, frames, words of locals; the room for cells -/
def tw_N (X : tw_X) (nL fr lo : Nat) : Prop := tx_n X = nL ∧ (tx_R X).frames = fr ∧ (tx_R X).locals = lo ∧ tx_k X ≤ (tx_R X).cells ∧ tx_z X ≤ (tx_R X).slots
/-- its end -/
def tw_Q {α : Type} (G : tw_G) (X : tw_X) (ret : Option FieldType) (inj : α → Option Value) (post : α → tw_S → Prop) : Prop := (tx_t X).sig.returnType = ret ∧ tx_A X = tw_AA G (tx_s X).heap.size ∧ tx_Q X = MQ (tx_b X) (tw_Qc G (tx_s X).heap.size inj post) (tx_a X) (tx_s X) (tx_k X) (tx_z X) (tw_AA G (tx_s X).heap.size)
def ri_I : Int32 → Option Value := fun x => some (.int x)
def ri_J : Int64 → Option Value := fun x => some (.long x)
def ri_V : Unit → Option Value := fun _ => none
section LY
variable {G : tw_G} {X : tw_X} {S : tw_S} {L L' : List (Nat × Value)} {pc : Nat} {st : List Value} {cc : ByteArray} {own : String}
theorem TW.c {L : List (Nat × Value)} (hs : ∀ q ∈ L', q ∈ L) (k : TW G X S L' pc st) : TW G X S L pc st := fun H locs ls hW hS hl => k H locs ls hW hS ⟨hl.1, hl.2.1, fun q hq => hl.2.2 q (hs q hq)⟩
theorem TW.wf (k : tw_wf G S → TW G X S L pc st) : TW G X S L pc st := fun H locs ls hW hS hl => k hW.1 H locs ls hW hS hl
theorem TW.stk {st' : List Value} (e : st = st') (k : TW G X S L pc st') : TW G X S L pc st := e ▸ k
theorem TW.sS {S' : tw_S} (e : S = S') (k : TW G X S' L pc st) : TW G X S L pc st := e ▸ k
theorem TW.lL (e : L = L') (k : TW G X S L' pc st) : TW G X S L pc st := e ▸ k
theorem TW.ti {x y : Int32} (e : x = y) (k : TW G X S L pc (.int y :: st)) : TW G X S L pc (.int x :: st) := e ▸ k
theorem TW.tl {x y : Int64} (e : x = y) (k : TW G X S L pc (.long y :: st)) : TW G X S L pc (.long x :: st) := e ▸ k
theorem tw_iconst {n : Int} {v : Int32} (C : tw_C G X cc own) (hd : decode cc pc = .ok (.iconst n, 1)) (hv : Int32.ofInt n = v) (k : TW G X S L (pc + 1) (.int v :: st)) : TW G X S L pc (st) := fun H locs ls hW hS hl => lv_iconst C.1 C.2.1 hd hv (k H locs ls hW hS hl)
theorem tw_bipush {n : Int} {v : Int32} (C : tw_C G X cc own) (hd : decode cc pc = .ok (.bipush n, 2)) (hv : (Int8.ofInt n).toInt32 = v) (k : TW G X S L (pc + 2) (.int v :: st)) : TW G X S L pc (st) := fun H locs ls hW hS hl => lv_bipush C.1 C.2.1 hd hv (k H locs ls hW hS hl)
theorem tw_sipush {n : Int} {v : Int32} (C : tw_C G X cc own) (hd : decode cc pc = .ok (.sipush n, 3)) (hv : (Int16.ofInt n).toInt32 = v) (k : TW G X S L (pc + 3) (.int v :: st)) : TW G X S L pc (st) := fun H locs ls hW hS hl => lv_sipush C.1 C.2.1 hd hv (k H locs ls hW hS hl)
theorem tw_lconst {n : Fin 2} {v : Int64} (C : tw_C G X cc own) (hd : decode cc pc = .ok (.lconst n, 1)) (hv : Int64.ofNat (n : Nat) = v) (k : TW G X S L (pc + 1) (.long v :: st)) : TW G X S L pc (st) := fun H locs ls hW hS hl => lv_lconst C.1 C.2.1 hd hv (k H locs ls hW hS hl)
theorem tw_ldc {index : Nat} {v w : Int32} (C : tw_C G X cc own) (hd : decode cc pc = .ok (.ldc index, 2)) (hc : Cond.constant own index v ∈ lw_g) (hv : v = w) (k : TW G X S L (pc + 2) (.int w :: st)) : TW G X S L pc (st) := fun H locs ls hW hS hl => lv_ldc C.1 C.2.1 C.2.2.2.1 (C.2.2.2.2.1 _ (hv ▸ hc)) hd (k H locs ls hW hS hl)
theorem tw_ldc2 {index : Nat} {v w : Int64} (C : tw_C G X cc own) (hd : decode cc pc = .ok (.ldc2_w index, 3)) (hc : Cond.constantLong own index v ∈ lw_g) (hv : v = w) (k : TW G X S L (pc + 3) (.long w :: st)) : TW G X S L pc (st) := fun H locs ls hW hS hl => lv_ldc2 C.1 C.2.1 C.2.2.2.1 (C.2.2.2.2.1 _ (hv ▸ hc)) hd (k H locs ls hW hS hl)
theorem tw_iload_n {k : Fin 4} {x : Int32} (C : tw_C G X cc own) (hd : decode cc pc = .ok (.iload_n k, 1)) (j : Nat) (hj : L[j]? = some ((k : Nat), .int x)) (k : TW G X S L (pc + 1) (.int x :: st)) : TW G X S L pc (st) := fun H locs ls hW hS hl => lv_iload_n C.1 C.2.1 hd rfl (lv_at hl j hj) (k H locs ls hW hS hl)
theorem tw_iload {i : Nat} {x : Int32} (C : tw_C G X cc own) (hd : decode cc pc = .ok (.iload i, 2)) (j : Nat) (hj : L[j]? = some (i, .int x)) (k : TW G X S L (pc + 2) (.int x :: st)) : TW G X S L pc (st) := fun H locs ls hW hS hl => lv_iload C.1 C.2.1 hd (lv_at hl j hj) (k H locs ls hW hS hl)
theorem tw_istore_n {x : Int32} {nL fr lo : Nat} {k : Fin 4} {i : Nat} (C : tw_C G X cc own) (N : tw_N X nL fr lo) (hd : decode cc pc = .ok (.istore_n k, 1)) (hi : (k : Nat) = i) (hn : i < nL) (hl' : (i, Value.int x) :: L.filter (fun q => !(q.1 == i) && !(q.1 + 1 == i && q.2.category == 2)) = L') (k' : TW G X S L' (pc + 1) st) : TW G X S L pc (.int x :: st) := fun H locs ls hW hS hl => lv_istore_n C.1 C.2.1 hd hi hl (by rw [N.1]; exact hn) hl' (fun ls' hl2 => k' H locs ls' hW hS hl2)
theorem tw_istore {x : Int32} {nL fr lo : Nat} {i : Nat} (C : tw_C G X cc own) (N : tw_N X nL fr lo) (hd : decode cc pc = .ok (.istore i, 2)) (hn : i < nL) (hl' : (i, Value.int x) :: L.filter (fun q => !(q.1 == i) && !(q.1 + 1 == i && q.2.category == 2)) = L') (k' : TW G X S L' (pc + 2) st) : TW G X S L pc (.int x :: st) := fun H locs ls hW hS hl => lv_istore C.1 C.2.1 hd hl (by rw [N.1]; exact hn) hl' (fun ls' hl2 => k' H locs ls' hW hS hl2)
theorem tw_lload_n {k : Fin 4} {x : Int64} (C : tw_C G X cc own) (hd : decode cc pc = .ok (.lload_n k, 1)) (j : Nat) (hj : L[j]? = some ((k : Nat), .long x)) (k : TW G X S L (pc + 1) (.long x :: st)) : TW G X S L pc (st) := fun H locs ls hW hS hl => lv_lload_n C.1 C.2.1 hd rfl (lv_at hl j hj) (k H locs ls hW hS hl)
theorem tw_lload {i : Nat} {x : Int64} (C : tw_C G X cc own) (hd : decode cc pc = .ok (.lload i, 2)) (j : Nat) (hj : L[j]? = some (i, .long x)) (k : TW G X S L (pc + 2) (.long x :: st)) : TW G X S L pc (st) := fun H locs ls hW hS hl => lv_lload C.1 C.2.1 hd (lv_at hl j hj) (k H locs ls hW hS hl)
theorem tw_lstore_n {x : Int64} {nL fr lo : Nat} {k : Fin 4} {i : Nat} (C : tw_C G X cc own) (N : tw_N X nL fr lo) (hd : decode cc pc = .ok (.lstore_n k, 1)) (hi : (k : Nat) = i) (hn : i + 1 < nL) (hl' : (i, Value.long x) :: L.filter (fun q => !(q.1 == i) && (!(q.1 == i + 1) && !(q.1 + 1 == i && q.2.category == 2))) = L') (k' : TW G X S L' (pc + 1) st) : TW G X S L pc (.long x :: st) := fun H locs ls hW hS hl => lv_lstore_n C.1 C.2.1 hd hi hl (by rw [N.1]; exact hn) hl' (fun ls' hl2 => k' H locs ls' hW hS hl2)
theorem tw_lstore {x : Int64} {nL fr lo : Nat} {i : Nat} (C : tw_C G X cc own) (N : tw_N X nL fr lo) (hd : decode cc pc = .ok (.lstore i, 2)) (hn : i + 1 < nL) (hl' : (i, Value.long x) :: L.filter (fun q => !(q.1 == i) && (!(q.1 == i + 1) && !(q.1 + 1 == i && q.2.category == 2))) = L') (k' : TW G X S L' (pc + 2) st) : TW G X S L pc (.long x :: st) := fun H locs ls hW hS hl => lv_lstore C.1 C.2.1 hd hl (by rw [N.1]; exact hn) hl' (fun ls' hl2 => k' H locs ls' hW hS hl2)
theorem tw_aload_n {k : Fin 4} {x : Nat} (C : tw_C G X cc own) (hd : decode cc pc = .ok (.aload_n k, 1)) (j : Nat) (hj : L[j]? = some ((k : Nat), .ref x)) (k : TW G X S L (pc + 1) (.ref x :: st)) : TW G X S L pc (st) := fun H locs ls hW hS hl => lv_aload_n C.1 C.2.1 hd rfl (lv_at hl j hj) (k H locs ls hW hS hl)
theorem tw_aload {i : Nat} {x : Nat} (C : tw_C G X cc own) (hd : decode cc pc = .ok (.aload i, 2)) (j : Nat) (hj : L[j]? = some (i, .ref x)) (k : TW G X S L (pc + 2) (.ref x :: st)) : TW G X S L pc (st) := fun H locs ls hW hS hl => lv_aload C.1 C.2.1 hd (lv_at hl j hj) (k H locs ls hW hS hl)
theorem tw_astore_n {x : Nat} {nL fr lo : Nat} {k : Fin 4} {i : Nat} (C : tw_C G X cc own) (N : tw_N X nL fr lo) (hd : decode cc pc = .ok (.astore_n k, 1)) (hi : (k : Nat) = i) (hn : i < nL) (hl' : (i, Value.ref x) :: L.filter (fun q => !(q.1 == i) && !(q.1 + 1 == i && q.2.category == 2)) = L') (k' : TW G X S L' (pc + 1) st) : TW G X S L pc (.ref x :: st) := fun H locs ls hW hS hl => lv_astore_n C.1 C.2.1 hd hi hl (by rw [N.1]; exact hn) hl' (fun ls' hl2 => k' H locs ls' hW hS hl2)
theorem tw_astore {x : Nat} {nL fr lo : Nat} {i : Nat} (C : tw_C G X cc own) (N : tw_N X nL fr lo) (hd : decode cc pc = .ok (.astore i, 2)) (hn : i < nL) (hl' : (i, Value.ref x) :: L.filter (fun q => !(q.1 == i) && !(q.1 + 1 == i && q.2.category == 2)) = L') (k' : TW G X S L' (pc + 2) st) : TW G X S L pc (.ref x :: st) := fun H locs ls hW hS hl => lv_astore C.1 C.2.1 hd hl (by rw [N.1]; exact hn) hl' (fun ls' hl2 => k' H locs ls' hW hS hl2)
theorem tw_iinc {i k nL fr lo : Nat} {n : Int} {x v : Int32} (C : tw_C G X cc own) (N : tw_N X nL fr lo) (hd : decode cc pc = .ok (.iinc i n, 3)) (hk : L[k]? = some (i, .int x)) (hv : x + Int32.ofInt n = v) (hn : i < nL) (hl' : (i, Value.int v) :: L.filter (fun q => !(q.1 == i) && !(q.1 + 1 == i && q.2.category == 2)) = L') (k' : TW G X S L' (pc + 3) st) : TW G X S L pc st := fun H locs ls hW hS hl => lv_iinc C.1 C.2.1 hd hl hk hv (by rw [N.1]; exact hn) hl' (fun ls' hl2 => k' H locs ls' hW hS hl2)
theorem tw_iadd {x y v : Int32} (C : tw_C G X cc own) (hd : decode cc pc = .ok (.iadd, 1)) (hv : x + y = v) (k : TW G X S L (pc + 1) (.int v :: st)) : TW G X S L pc (.int y :: .int x :: st) := fun H locs ls hW hS hl => lv_iadd C.1 C.2.1 hd (by rw [hv]; exact k H locs ls hW hS hl)
theorem tw_isub {x y v : Int32} (C : tw_C G X cc own) (hd : decode cc pc = .ok (.isub, 1)) (hv : x - y = v) (k : TW G X S L (pc + 1) (.int v :: st)) : TW G X S L pc (.int y :: .int x :: st) := fun H locs ls hW hS hl => lv_isub C.1 C.2.1 hd (by rw [hv]; exact k H locs ls hW hS hl)
theorem tw_imul {x y v : Int32} (C : tw_C G X cc own) (hd : decode cc pc = .ok (.imul, 1)) (hv : x * y = v) (k : TW G X S L (pc + 1) (.int v :: st)) : TW G X S L pc (.int y :: .int x :: st) := fun H locs ls hW hS hl => lv_imul C.1 C.2.1 hd (by rw [hv]; exact k H locs ls hW hS hl)
theorem tw_iand {x y v : Int32} (C : tw_C G X cc own) (hd : decode cc pc = .ok (.iand, 1)) (hv : x &&& y = v) (k : TW G X S L (pc + 1) (.int v :: st)) : TW G X S L pc (.int y :: .int x :: st) := fun H locs ls hW hS hl => lv_iand C.1 C.2.1 hd (by rw [hv]; exact k H locs ls hW hS hl)
theorem tw_ior {x y v : Int32} (C : tw_C G X cc own) (hd : decode cc pc = .ok (.ior, 1)) (hv : x ||| y = v) (k : TW G X S L (pc + 1) (.int v :: st)) : TW G X S L pc (.int y :: .int x :: st) := fun H locs ls hW hS hl => lv_ior C.1 C.2.1 hd (by rw [hv]; exact k H locs ls hW hS hl)
theorem tw_ixor {x y v : Int32} (C : tw_C G X cc own) (hd : decode cc pc = .ok (.ixor, 1)) (hv : x ^^^ y = v) (k : TW G X S L (pc + 1) (.int v :: st)) : TW G X S L pc (.int y :: .int x :: st) := fun H locs ls hW hS hl => lv_ixor C.1 C.2.1 hd (by rw [hv]; exact k H locs ls hW hS hl)
theorem tw_land {x y v : Int64} (C : tw_C G X cc own) (hd : decode cc pc = .ok (.land, 1)) (hv : x &&& y = v) (k : TW G X S L (pc + 1) (.long v :: st)) : TW G X S L pc (.long y :: .long x :: st) := fun H locs ls hW hS hl => lv_land C.1 C.2.1 hd (by rw [hv]; exact k H locs ls hW hS hl)
theorem tw_lor {x y v : Int64} (C : tw_C G X cc own) (hd : decode cc pc = .ok (.lor, 1)) (hv : x ||| y = v) (k : TW G X S L (pc + 1) (.long v :: st)) : TW G X S L pc (.long y :: .long x :: st) := fun H locs ls hW hS hl => lv_lor C.1 C.2.1 hd (by rw [hv]; exact k H locs ls hW hS hl)
theorem tw_lxor {x y v : Int64} (C : tw_C G X cc own) (hd : decode cc pc = .ok (.lxor, 1)) (hv : x ^^^ y = v) (k : TW G X S L (pc + 1) (.long v :: st)) : TW G X S L pc (.long y :: .long x :: st) := fun H locs ls hW hS hl => lv_lxor C.1 C.2.1 hd (by rw [hv]; exact k H locs ls hW hS hl)
theorem tw_ishl {x y v : Int32} (C : tw_C G X cc own) (hd : decode cc pc = .ok (.ishl, 1)) (hv : x <<< (y &&& 31) = v) (k : TW G X S L (pc + 1) (.int v :: st)) : TW G X S L pc (.int y :: .int x :: st) := fun H locs ls hW hS hl => lv_ishl C.1 C.2.1 hd (by rw [hv]; exact k H locs ls hW hS hl)
theorem tw_ishr {x y v : Int32} (C : tw_C G X cc own) (hd : decode cc pc = .ok (.ishr, 1)) (hv : x >>> (y &&& 31) = v) (k : TW G X S L (pc + 1) (.int v :: st)) : TW G X S L pc (.int y :: .int x :: st) := fun H locs ls hW hS hl => lv_ishr C.1 C.2.1 hd (by rw [hv]; exact k H locs ls hW hS hl)
theorem tw_lshl {x v : Int64} {y : Int32} (C : tw_C G X cc own) (hd : decode cc pc = .ok (.lshl, 1)) (hv : x <<< (y.toInt64 &&& 63) = v) (k : TW G X S L (pc + 1) (.long v :: st)) : TW G X S L pc (.int y :: .long x :: st) := fun H locs ls hW hS hl => lv_lshl C.1 C.2.1 hd hv (k H locs ls hW hS hl)
theorem tw_lshr {x v : Int64} {y : Int32} (C : tw_C G X cc own) (hd : decode cc pc = .ok (.lshr, 1)) (hv : x >>> (y.toInt64 &&& 63) = v) (k : TW G X S L (pc + 1) (.long v :: st)) : TW G X S L pc (.int y :: .long x :: st) := fun H locs ls hW hS hl => lv_lshr C.1 C.2.1 hd hv (k H locs ls hW hS hl)
theorem tw_lushr {x v : Int64} {y : Int32} (C : tw_C G X cc own) (hd : decode cc pc = .ok (.lushr, 1)) (hv : (x.toUInt64 >>> (y.toInt64.toUInt64 &&& Int64.toUInt64 63)).toInt64 = v) (k : TW G X S L (pc + 1) (.long v :: st)) : TW G X S L pc (.int y :: .long x :: st) := fun H locs ls hW hS hl => lv_lushr C.1 C.2.1 hd hv (k H locs ls hW hS hl)
theorem tw_i2l {x : Int32} {v : Int64} (C : tw_C G X cc own) (hd : decode cc pc = .ok (.i2l, 1)) (hv : x.toInt64 = v) (k : TW G X S L (pc + 1) (.long v :: st)) : TW G X S L pc (.int x :: st) := fun H locs ls hW hS hl => lv_i2l C.1 C.2.1 hd hv (k H locs ls hW hS hl)
theorem tw_l2i {x : Int64} {v : Int32} (C : tw_C G X cc own) (hd : decode cc pc = .ok (.l2i, 1)) (hv : x.toInt32 = v) (k : TW G X S L (pc + 1) (.int v :: st)) : TW G X S L pc (.long x :: st) := fun H locs ls hW hS hl => lv_l2i C.1 C.2.1 hd hv (k H locs ls hW hS hl)
theorem tw_idiv {x y v : Int32} (C : tw_C G X cc own) (hd : decode cc pc = .ok (.idiv, 1)) (hne : ¬ y = 0) (hv : x / y = v) (k : TW G X S L (pc + 1) (.int v :: st)) : TW G X S L pc (.int y :: .int x :: st) := fun H locs ls hW hS hl => lv_idiv C.1 C.2.1 hd hne (by rw [hv]; exact k H locs ls hW hS hl)
theorem tw_irem {x y v : Int32} (C : tw_C G X cc own) (hd : decode cc pc = .ok (.irem, 1)) (hne : ¬ y = 0) (hv : x - x / y * y = v) (k : TW G X S L (pc + 1) (.int v :: st)) : TW G X S L pc (.int y :: .int x :: st) := fun H locs ls hW hS hl => lv_irem C.1 C.2.1 hd hne (by rw [hv]; exact k H locs ls hW hS hl)
theorem tw_lcmp {x y : Int64} (C : tw_C G X cc own) (hd : decode cc pc = .ok (.lcmp, 1)) (k : TW G X S L (pc + 1) (.int (lg_cmp x y) :: st)) : TW G X S L pc (.long y :: .long x :: st) := fun H locs ls hW hS hl => W.lcmp C.1 C.2.1 hd (k H locs ls hW hS hl)
theorem tw_dup {v : Value} (C : tw_C G X cc own) (hd : decode cc pc = .ok (.dup, 1)) (hv : v.category = 1) (k : TW G X S L (pc + 1) (v :: v :: st)) : TW G X S L pc (v :: st) := fun H locs ls hW hS hl => lv_dup C.1 C.2.1 hd hv (k H locs ls hW hS hl)
theorem tw_pop {v : Value} (C : tw_C G X cc own) (hd : decode cc pc = .ok (.pop, 1)) (hv : v.category = 1) (k : TW G X S L (pc + 1) (st)) : TW G X S L pc (v :: st) := fun H locs ls hW hS hl => lv_pop C.1 C.2.1 hd hv (k H locs ls hW hS hl)
theorem tw_dup2 {v w : Value} (C : tw_C G X cc own) (hd : decode cc pc = .ok (.dup2, 1)) (hv : v.category = 1) (hw : w.category = 1) (k : TW G X S L (pc + 1) (v :: w :: v :: w :: st)) : TW G X S L pc (v :: w :: st) := fun H locs ls hW hS hl => lv_dup2_11 C.1 C.2.1 hd hv hw (k H locs ls hW hS hl)
theorem tw_if_eq {x : Int32} {off : Int} {tgt : Nat} (C : tw_C G X cc own) (hd : decode cc pc = .ok (.ifCond .eq off, 3)) (ht : (pc : Int) + off = (tgt : Int)) (kt : x = 0 → TW G X S L tgt st) (kf : ¬ x = 0 → TW G X S L (pc + 3) st) : TW G X S L pc (.int x :: st) := fun H locs ls hW hS hl => lv_if_eq C.1 C.2.1 hd ht (fun c => kt c H locs ls hW hS hl) (fun c => kf c H locs ls hW hS hl)
theorem tw_icmp_eq {x y : Int32} {off : Int} {tgt : Nat} (C : tw_C G X cc own) (hd : decode cc pc = .ok (.if_icmp .eq off, 3)) (ht : (pc : Int) + off = (tgt : Int)) (kt : x = y → TW G X S L tgt st) (kf : ¬ x = y → TW G X S L (pc + 3) st) : TW G X S L pc (.int y :: .int x :: st) := fun H locs ls hW hS hl => lv_icmp_eq C.1 C.2.1 hd ht (fun c => kt c H locs ls hW hS hl) (fun c => kf c H locs ls hW hS hl)
theorem tw_if_ne {x : Int32} {off : Int} {tgt : Nat} (C : tw_C G X cc own) (hd : decode cc pc = .ok (.ifCond .ne off, 3)) (ht : (pc : Int) + off = (tgt : Int)) (kt : ¬ x = 0 → TW G X S L tgt st) (kf : x = 0 → TW G X S L (pc + 3) st) : TW G X S L pc (.int x :: st) := fun H locs ls hW hS hl => lv_if_ne C.1 C.2.1 hd ht (fun c => kt c H locs ls hW hS hl) (fun c => kf c H locs ls hW hS hl)
theorem tw_icmp_ne {x y : Int32} {off : Int} {tgt : Nat} (C : tw_C G X cc own) (hd : decode cc pc = .ok (.if_icmp .ne off, 3)) (ht : (pc : Int) + off = (tgt : Int)) (kt : ¬ x = y → TW G X S L tgt st) (kf : x = y → TW G X S L (pc + 3) st) : TW G X S L pc (.int y :: .int x :: st) := fun H locs ls hW hS hl => lv_icmp_ne C.1 C.2.1 hd ht (fun c => kt c H locs ls hW hS hl) (fun c => kf c H locs ls hW hS hl)
theorem tw_if_lt {x : Int32} {off : Int} {tgt : Nat} (C : tw_C G X cc own) (hd : decode cc pc = .ok (.ifCond .lt off, 3)) (ht : (pc : Int) + off = (tgt : Int)) (kt : x < 0 → TW G X S L tgt st) (kf : ¬ x < 0 → TW G X S L (pc + 3) st) : TW G X S L pc (.int x :: st) := fun H locs ls hW hS hl => lv_if_lt C.1 C.2.1 hd ht (fun c => kt c H locs ls hW hS hl) (fun c => kf c H locs ls hW hS hl)
theorem tw_icmp_lt {x y : Int32} {off : Int} {tgt : Nat} (C : tw_C G X cc own) (hd : decode cc pc = .ok (.if_icmp .lt off, 3)) (ht : (pc : Int) + off = (tgt : Int)) (kt : x < y → TW G X S L tgt st) (kf : ¬ x < y → TW G X S L (pc + 3) st) : TW G X S L pc (.int y :: .int x :: st) := fun H locs ls hW hS hl => lv_icmp_lt C.1 C.2.1 hd ht (fun c => kt c H locs ls hW hS hl) (fun c => kf c H locs ls hW hS hl)
theorem tw_if_ge {x : Int32} {off : Int} {tgt : Nat} (C : tw_C G X cc own) (hd : decode cc pc = .ok (.ifCond .ge off, 3)) (ht : (pc : Int) + off = (tgt : Int)) (kt : 0 ≤ x → TW G X S L tgt st) (kf : ¬ 0 ≤ x → TW G X S L (pc + 3) st) : TW G X S L pc (.int x :: st) := fun H locs ls hW hS hl => lv_if_ge C.1 C.2.1 hd ht (fun c => kt c H locs ls hW hS hl) (fun c => kf c H locs ls hW hS hl)
theorem tw_icmp_ge {x y : Int32} {off : Int} {tgt : Nat} (C : tw_C G X cc own) (hd : decode cc pc = .ok (.if_icmp .ge off, 3)) (ht : (pc : Int) + off = (tgt : Int)) (kt : y ≤ x → TW G X S L tgt st) (kf : ¬ y ≤ x → TW G X S L (pc + 3) st) : TW G X S L pc (.int y :: .int x :: st) := fun H locs ls hW hS hl => lv_icmp_ge C.1 C.2.1 hd ht (fun c => kt c H locs ls hW hS hl) (fun c => kf c H locs ls hW hS hl)
theorem tw_if_gt {x : Int32} {off : Int} {tgt : Nat} (C : tw_C G X cc own) (hd : decode cc pc = .ok (.ifCond .gt off, 3)) (ht : (pc : Int) + off = (tgt : Int)) (kt : 0 < x → TW G X S L tgt st) (kf : ¬ 0 < x → TW G X S L (pc + 3) st) : TW G X S L pc (.int x :: st) := fun H locs ls hW hS hl => lv_if_gt C.1 C.2.1 hd ht (fun c => kt c H locs ls hW hS hl) (fun c => kf c H locs ls hW hS hl)
theorem tw_icmp_gt {x y : Int32} {off : Int} {tgt : Nat} (C : tw_C G X cc own) (hd : decode cc pc = .ok (.if_icmp .gt off, 3)) (ht : (pc : Int) + off = (tgt : Int)) (kt : y < x → TW G X S L tgt st) (kf : ¬ y < x → TW G X S L (pc + 3) st) : TW G X S L pc (.int y :: .int x :: st) := fun H locs ls hW hS hl => lv_icmp_gt C.1 C.2.1 hd ht (fun c => kt c H locs ls hW hS hl) (fun c => kf c H locs ls hW hS hl)
theorem tw_if_le {x : Int32} {off : Int} {tgt : Nat} (C : tw_C G X cc own) (hd : decode cc pc = .ok (.ifCond .le off, 3)) (ht : (pc : Int) + off = (tgt : Int)) (kt : x ≤ 0 → TW G X S L tgt st) (kf : ¬ x ≤ 0 → TW G X S L (pc + 3) st) : TW G X S L pc (.int x :: st) := fun H locs ls hW hS hl => lv_if_le C.1 C.2.1 hd ht (fun c => kt c H locs ls hW hS hl) (fun c => kf c H locs ls hW hS hl)
theorem tw_icmp_le {x y : Int32} {off : Int} {tgt : Nat} (C : tw_C G X cc own) (hd : decode cc pc = .ok (.if_icmp .le off, 3)) (ht : (pc : Int) + off = (tgt : Int)) (kt : x ≤ y → TW G X S L tgt st) (kf : ¬ x ≤ y → TW G X S L (pc + 3) st) : TW G X S L pc (.int y :: .int x :: st) := fun H locs ls hW hS hl => lv_icmp_le C.1 C.2.1 hd ht (fun c => kt c H locs ls hW hS hl) (fun c => kf c H locs ls hW hS hl)
theorem tw_goto {off : Int} {tgt : Nat} (C : tw_C G X cc own) (hd : decode cc pc = .ok (.goto off, 3)) (ht : (pc : Int) + off = (tgt : Int)) (k : TW G X S L tgt st) : TW G X S L pc st := fun H locs ls hW hS hl => lv_goto C.1 C.2.1 hd ht (k H locs ls hW hS hl)
theorem tw_tabOut {dflt lo hi : Int} {offs : Array Int} {len : Nat} {x : Int32} {tgt : Nat} (C : tw_C G X cc own) (hd : decode cc pc = .ok (.tableswitch dflt lo hi offs, len)) (h : x.toInt < lo ∨ hi < x.toInt) (ht : (pc : Int) + dflt = (tgt : Int)) (k : TW G X S L tgt st) : TW G X S L pc (.int x :: st) := fun H locs ls hW hS hl => lv_tableOut C.1 C.2.1 hd h ht (k H locs ls hW hS hl)
theorem tw_tabIn {dflt lo hi : Int} {offs : Array Int} {len : Nat} {x : Int32} {off : Int} {tgt : Nat} (C : tw_C G X cc own) (hd : decode cc pc = .ok (.tableswitch dflt lo hi offs, len)) (h1 : ¬ x.toInt < lo) (h2 : ¬ hi < x.toInt) (ho : offs[(x.toInt - lo).toNat]? = some off) (ht : (pc : Int) + off = (tgt : Int)) (k : TW G X S L tgt st) : TW G X S L pc (.int x :: st) := fun H locs ls hW hS hl => lv_tableIn C.1 C.2.1 hd h1 h2 ho ht (k H locs ls hW hS hl)
theorem tw_lookup {dflt : Int} {ps : Array (Int × Int)} {len : Nat} {x : Int32} {off : Int} {tgt : Nat} (C : tw_C G X cc own) (hd : decode cc pc = .ok (.lookupswitch dflt ps, len)) (hp : (ps.toList.zip (ps.toList.drop 1)).all (fun (a, next) => a.1 < next.1) = true) (ho : Op.lookupswitch.offset ps.toList dflt x.toInt = off) (ht : (pc : Int) + off = (tgt : Int)) (k : TW G X S L tgt st) : TW G X S L pc (.int x :: st) := fun H locs ls hW hS hl => lv_lookup C.1 C.2.1 hd hp ho ht (k H locs ls hW hS hl)
theorem tw_C.ow (C : tw_C G X cc own) : (tx_s X).vm.findClass own = some (tx_m X).cls := C.2.2.2.1
theorem tw_C.ts (C : tw_C G X cc own) : ∀ w ∈ lw_g, w.before (tx_a X) (tx_s X) = true := C.2.2.2.2.1
theorem tw_C.E (C : tw_C G X cc own) : tw_E G (tx_A X) (tx_s X) := C.2.2.2.2.2.1
theorem tw_C.Z (C : tw_C G X cc own) : tw_Z G (tx_A X) (tx_s X) (tx_s X).heap := C.2.2.2.2.2.2.1
theorem tw_C.A (C : tw_C G X cc own) : ∀ q, (tx_s X).heap.size ≤ q → tx_A X q := C.2.2.2.2.2.2.2.1
theorem tw_C.lk (C : tw_C G X cc own) : (tx_t X).locks = false := C.2.2.2.2.2.2.2.2
/-- a class of ours: its place, its fields, what the tables say of them -/
def tw_F (ci : Nat) (CN : String) (T : u_T) (N : Nat) (ty : Nat → FieldType) : Prop := vwCl[ci]? = some (CN, T, N) ∧ (∀ w ∈ u_ws CN T N, w ∈ lw_g) ∧ (∀ k, k < N → parseFieldDescriptor (T k).2.2.1 = some (ty k)) ∧ ∀ a, a < N → ∀ b, b < N → a ≠ b → (T a).2.1 ≠ (T b).2.1
theorem tw_at {r : Nat} {f : Nat → va_E} (C : tw_C G X cc own) (hP : tw_P G r) : ∃ k : Nat, (([] : va_W) ++ va_pl (tw_LA G) f)[k]? = some (tw_ad G r, f (tw_ad G r)) := va_pl_get (C.E.2.2.1 r hP)
theorem tw_getv {idx r ci k c' N : Nat} {cs : List Nat} {CN : String} {T : u_T} {ty : Nat → FieldType} (C : tw_C G X cc own) (hd : decode cc pc = .ok (.getfield idx, 3)) (F : tw_F ci CN T N ty) (hsh : tw_sh r = some (ci, cs)) (hP : tw_P G r) (hk : cs[k]? = some c') (hkN : k < N) (hw : Cond.fieldLink own idx (T k).1 (T k).2.1 (T k).2.2.1 ∈ lw_g) (kk : TW G X S L (pc + 3) (tw_fv (tw_ad G) S r k c' :: st)) : TW G X S L pc (.ref (tw_ad G r) :: st) := by
  intro H locs ls hW hS hl
  have hW0 := hW
  obtain ⟨hwf, f, hPf, hen⟩ := hW
  have he := hen r hP
  simp only [tw_en, hsh] at he
  obtain ⟨q0, hq0⟩ := tw_at (f := f) C hP
  rw [he] at hq0
  exact va_get (D := tw_D G) (C := CN) (T := T) (N := N) C.1 C.2.1 C.ts F.2.1 C.ow C.E.1 (show va_P (tw_D G) vwCl (([] : va_W) ++ va_pl (tw_LA G) f) H from hPf) q0 hq0 F.1 k hkN (C.ts _ hw) (fun _ h => h) (by rw [tw_fl_get, hk]; simp only [Option.map_some, Nat.zero_add]) hd (kk H locs ls hW0 hS hl)
theorem tw_getI {idx r ci k N : Nat} {cs : List Nat} {CN : String} {T : u_T} {ty : Nat → FieldType} (C : tw_C G X cc own) (hd : decode cc pc = .ok (.getfield idx, 3)) (F : tw_F ci CN T N ty) (hsh : tw_sh r = some (ci, cs)) (hP : tw_P G r) (hk : cs[k]? = some 0) (hkN : k < N) (hw : Cond.fieldLink own idx (T k).1 (T k).2.1 (T k).2.2.1 ∈ lw_g) {v : Int32} (hv : tw_I S r k = v) (kk : TW G X S L (pc + 3) (.int v :: st)) : TW G X S L pc (.ref (tw_ad G r) :: st) := tw_getv C hd F hsh hP hk hkN hw (by subst hv; exact kk)
theorem tw_getIN {idx r ci k N : Nat} {cs : List Nat} {CN host : String} {T : u_T} {ty : Nat → FieldType} (C : tw_C G X cc own) (hd : decode cc pc = .ok (.getfield idx, 3)) (F : tw_F ci CN T N ty) (hsh : tw_sh r = some (ci, cs)) (hP : tw_P G r) (hk : cs[k]? = some 0) (hkN : k < N) (hw : va_Nw (.fieldLinkNest own idx (T k).1 (T k).2.1 (T k).2.2.1 host) (tx_s X)) {v : Int32} (hv : tw_I S r k = v) (kk : TW G X S L (pc + 3) (.int v :: st)) : TW G X S L pc (.ref (tw_ad G r) :: st) := by
  intro H locs ls hW hS hl
  have hW0 := hW
  obtain ⟨hwf, f, hPf, hen⟩ := hW
  have he := hen r hP
  simp only [tw_en, hsh] at he
  obtain ⟨q0, hq0⟩ := tw_at (f := f) C hP
  rw [he] at hq0
  exact va_getN (D := tw_D G) (C := CN) (T := T) (N := N) C.1 C.2.1 C.ts F.2.1 C.ow C.E.1 (show va_P (tw_D G) vwCl (([] : va_W) ++ va_pl (tw_LA G) f) H from hPf) q0 hq0 F.1 k hkN (va_Nw.use rfl hw) (fun _ h => h) (v := .int v) (by rw [tw_fl_get, hk]; simp only [Option.map_some, Nat.zero_add]; subst hv; rfl) hd (kk H locs ls hW0 hS hl)
theorem tw_getJ {idx r ci k N : Nat} {cs : List Nat} {CN : String} {T : u_T} {ty : Nat → FieldType} (C : tw_C G X cc own) (hd : decode cc pc = .ok (.getfield idx, 3)) (F : tw_F ci CN T N ty) (hsh : tw_sh r = some (ci, cs)) (hP : tw_P G r) (hk : cs[k]? = some 1) (hkN : k < N) (hw : Cond.fieldLink own idx (T k).1 (T k).2.1 (T k).2.2.1 ∈ lw_g) {v : Int64} (hv : tw_J S r k = v) (kk : TW G X S L (pc + 3) (.long v :: st)) : TW G X S L pc (.ref (tw_ad G r) :: st) := tw_getv C hd F hsh hP hk hkN hw (by subst hv; exact kk)
theorem tw_getN {idx r ci k N : Nat} {cs : List Nat} {CN : String} {T : u_T} {ty : Nat → FieldType} (C : tw_C G X cc own) (hd : decode cc pc = .ok (.getfield idx, 3)) (F : tw_F ci CN T N ty) (hsh : tw_sh r = some (ci, cs)) (hP : tw_P G r) (hk : cs[k]? = some 2) (hkN : k < N) (hw : Cond.fieldLink own idx (T k).1 (T k).2.1 (T k).2.2.1 ∈ lw_g) (kk : TW G X S L (pc + 3) (.int (nI (tw_R S r).length) :: st)) : TW G X S L pc (.ref (tw_ad G r) :: st) := tw_getv C hd F hsh hP hk hkN hw kk
theorem tw_getR {idx r ci k N q : Nat} {cs : List Nat} {CN : String} {T : u_T} {ty : Nat → FieldType} (C : tw_C G X cc own) (hd : decode cc pc = .ok (.getfield idx, 3)) (F : tw_F ci CN T N ty) (hsh : tw_sh r = some (ci, cs)) (hP : tw_P G r) (hk : cs[k]? = some (q + 3)) (hkN : k < N) (hw : Cond.fieldLink own idx (T k).1 (T k).2.1 (T k).2.2.1 ∈ lw_g) (kk : TW G X S L (pc + 3) (.ref (tw_ad G q) :: st)) : TW G X S L pc (.ref (tw_ad G r) :: st) := tw_getv C hd F hsh hP hk hkN hw (by
    have e : tw_fv (tw_ad G) S r k (q + 3) = .ref (tw_ad G q) := by simp [tw_fv]
    rw [e]; exact kk)
theorem tw_putv {idx r ci k N : Nat} {cs : List Nat} {CN : String} {T : u_T} {ty : Nat → FieldType} {v : Value} {S' : tw_S} (C : tw_C G X cc own) (hd : decode cc pc = .ok (.putfield idx, 3)) (F : tw_F ci CN T N ty) (hsh : tw_sh r = some (ci, cs)) (hP : tw_P G r) (hkN : k < N) (hkl : k < cs.length) (hfin : (T k).2.2.2 = false) (hw : Cond.fieldLink own idx (T k).1 (T k).2.1 (T k).2.2.1 ∈ lw_g) (hn : narrow (ty k) v = v) (hf : fits (ty k) v = true)
    (hag : ∀ q, q ≠ r → ∀ e, tw_en G S q e → tw_en G S' q e) (hS' : ∀ j c, cs[j]? = some c → tw_fv (tw_ad G) S' r j c = if j = k then v else tw_fv (tw_ad G) S r j c) (hwf' : tw_wf G S → tw_wf G S') (kk : TW G X S' L (pc + 3) st) : TW G X S L pc (v :: .ref (tw_ad G r) :: st) := by
  intro H locs ls hW hS hl
  obtain ⟨hwf, f, hPf, hen⟩ := hW
  have he := hen r hP
  simp only [tw_en, hsh] at he
  obtain ⟨q0, hq0⟩ := tw_at (f := f) C hP
  have hq1 := hq0
  rw [he] at hq1
  have hDf : va_D (tx_A X) (([] : va_W) ++ va_pl (tw_LA G) f) := C.E.2.1 f
  refine va_put (D := tw_D G) (cl := vwCl) (ws := ([] : va_W) ++ va_pl (tw_LA G) f) (A := tx_A X) (H0 := (tx_s X).heap) (v := v) (ty := ty k) (C := CN) (T := T) (N := N) C.1 C.2.1 C.ts F.2.1 ty F.2.2.1 F.2.2.2 C.ow C.E.1 (show va_P (tw_D G) vwCl (([] : va_W) ++ va_pl (tw_LA G) f) H from hPf) hDf hS q0 hq1 F.1 k hkN (C.ts _ hw) (fun _ h => h) hfin (F.2.2.1 k hkN) hn hf (by rw [tw_fl_len]; exact hkl) hd (fun H1 locs1 hP1 hD1 hS1 => ?_)
  rw [va_pl_set hDf (C.E.2.2.1 r hP) hq0] at hP1
  refine kk H1 locs1 ls ⟨hwf' hwf, va_up f (tw_ad G r) _, hP1, fun q hq => ?_⟩ hS1 hl
  by_cases hqr : q = r
  · subst hqr
    rw [va_up_self]
    simp only [tw_en, hsh]
    rw [tw_fl_set hS']
  · rw [va_up_ne _ _ (fun z => hqr (C.E.2.2.2 q r hq hP z))]
    exact hag q hqr _ (hen q hq)
theorem tw_ag_uI {r k q : Nat} {x : Int32} (h : q ≠ r) : tw_ag q S (tw_uI S r k x) := ⟨rfl, rfl, by funext j; simp [tw_I, tw_uI, h], rfl, rfl, rfl⟩
theorem tw_ag_uJ {r k q : Nat} {x : Int64} (h : q ≠ r) : tw_ag q S (tw_uJ S r k x) := ⟨rfl, rfl, rfl, by funext j; simp [tw_J, tw_uJ, h], rfl, rfl⟩
theorem tw_ag_uA {r k q : Nat} {x : Int32} (h : q ≠ r) : tw_ag q S (tw_uA S r k x) := ⟨rfl, rfl, rfl, rfl, by funext j; simp [tw_A, tw_uA, h], rfl⟩
theorem tw_ag_uB {r k q : Nat} {x : Int64} (h : q ≠ r) : tw_ag q S (tw_uB S r k x) := ⟨rfl, rfl, rfl, rfl, rfl, by funext j; simp [tw_B, tw_uB, h]⟩
theorem tw_ag_uR {r q : Nat} {xs : List Nat} (h : q ≠ r) (h1 : q ≠ r + 1) (h0 : 1 ≤ r) : tw_ag q S (tw_uR S r xs) := by
  have h2 : q - 1 ≠ r := by omega
  exact ⟨by simp [tw_R, tw_uR, h], by simp [tw_R, tw_uR, h2], rfl, rfl, rfl, rfl⟩
theorem tw_putI {idx r ci k N : Nat} {cs : List Nat} {CN : String} {T : u_T} {ty : Nat → FieldType} {x : Int32} (C : tw_C G X cc own) (hd : decode cc pc = .ok (.putfield idx, 3)) (F : tw_F ci CN T N ty) (hsh : tw_sh r = some (ci, cs)) (hP : tw_P G r) (hk : cs[k]? = some 0) (hkN : k < N) (hfin : (T k).2.2.2 = false) (hw : Cond.fieldLink own idx (T k).1 (T k).2.1 (T k).2.2.1 ∈ lw_g) (hn : narrow (ty k) (.int x) = .int x) (hf : fits (ty k) (.int x) = true) (kk : TW G X (tw_uI S r k x) L (pc + 3) st) : TW G X S L pc (.int x :: .ref (tw_ad G r) :: st) := by
  refine tw_putv C hd F hsh hP hkN (List.getElem?_eq_some_iff.mp hk).1 hfin hw hn hf (fun q hq e h => tw_en_ag (tw_ag_uI hq) h) (fun j c hj => ?_) (fun h => h) kk
  by_cases hjk : j = k
  · subst hjk
    rw [hk] at hj
    cases hj
    simp [tw_fv, tw_I, tw_uI]
  · simp [tw_fv, tw_I, tw_uI, tw_R, tw_J, hjk]
theorem tw_putJ {idx r ci k N : Nat} {cs : List Nat} {CN : String} {T : u_T} {ty : Nat → FieldType} {x : Int64} (C : tw_C G X cc own) (hd : decode cc pc = .ok (.putfield idx, 3)) (F : tw_F ci CN T N ty) (hsh : tw_sh r = some (ci, cs)) (hP : tw_P G r) (hk : cs[k]? = some 1) (hkN : k < N) (hfin : (T k).2.2.2 = false) (hw : Cond.fieldLink own idx (T k).1 (T k).2.1 (T k).2.2.1 ∈ lw_g) (hn : narrow (ty k) (.long x) = .long x) (hf : fits (ty k) (.long x) = true) (kk : TW G X (tw_uJ S r k x) L (pc + 3) st) : TW G X S L pc (.long x :: .ref (tw_ad G r) :: st) := by
  refine tw_putv C hd F hsh hP hkN (List.getElem?_eq_some_iff.mp hk).1 hfin hw hn hf (fun q hq e h => tw_en_ag (tw_ag_uJ hq) h) (fun j c hj => ?_) (fun h => h) kk
  by_cases hjk : j = k
  · subst hjk
    rw [hk] at hj
    cases hj
    simp [tw_fv, tw_J, tw_uJ]
  · simp [tw_fv, tw_I, tw_uJ, tw_R, tw_J, hjk]
theorem tw_row_lt {r : Nat} (h : tw_isRow r = true) : 1 ≤ r ∧ r < 114 := by
  simp only [tw_isRow, Bool.or_eq_true, Bool.and_eq_true, beq_iff_eq, decide_eq_true_eq] at h
  omega
theorem tw_row_sh0 : ∀ r, r < 114 → tw_isRow r = true → tw_sh (r + 1) = none ∧ tw_sh r = some (5, [r + 4, 2]) ∧ tw_ar (r + 1) = some (3, tw_cap r) ∧ tw_cap r ≤ 640 := by decide +kernel
theorem tw_row_sh {r : Nat} (h : tw_isRow r = true) : tw_sh r = some (5, [r + 4, 2]) := (tw_row_sh0 r (tw_row_lt h).2 h).2.1
theorem tw_row_a0 {r : Nat} (h : tw_isRow r = true) : tw_sh (r + 1) = none := (tw_row_sh0 r (tw_row_lt h).2 h).1
theorem tw_row_ar {r : Nat} (h : tw_isRow r = true) : tw_ar (r + 1) = some (3, tw_cap r) := (tw_row_sh0 r (tw_row_lt h).2 h).2.2.1
theorem tw_row_cap {r : Nat} (h : tw_isRow r = true) : tw_cap r ≤ 640 := (tw_row_sh0 r (tw_row_lt h).2 h).2.2.2
theorem tw_en_uR {G : tw_G} {S : tw_S} {r q : Nat} {xs : List Nat} {e : va_E} (hr : tw_isRow r = true) (hq : q ≠ r) (hx : q = r + 1 → ∀ g : Nat → Int32, (∀ (i x : Nat), (tw_R S r)[i]? = some x → g i = nI x) → ∀ (i x : Nat), xs[i]? = some x → g i = nI x) (he : tw_en G S q e) : tw_en G (tw_uR S r xs) q e := by
  by_cases h1 : q = r + 1
  · subst h1
    unfold tw_en at he ⊢
    simp only [tw_row_a0 hr, tw_row_ar hr, Nat.add_sub_cancel] at he ⊢
    obtain ⟨g, e1, e2⟩ := he
    refine ⟨g, e1, ?_⟩
    have hR : tw_R (tw_uR S r xs) r = xs := by simp [tw_R, tw_uR]
    rw [hR]
    exact hx rfl g e2
  · exact tw_en_ag (tw_ag_uR hq h1 (tw_row_lt hr).1) he
theorem tw_wf_uR {G : tw_G} {S : tw_S} {r : Nat} {xs : List Nat} (h : tw_wf G S) (hl : xs.length ≤ tw_cap r) (hb : ∀ x ∈ xs, x < 256) : tw_wf G (tw_uR S r xs) := by
  intro q hq hr
  by_cases h1 : q = r
  · subst h1
    have hR : tw_R (tw_uR S q xs) q = xs := by simp [tw_R, tw_uR]
    rw [hR]
    exact ⟨hl, hb⟩
  · have hR : tw_R (tw_uR S r xs) q = tw_R S q := by simp [tw_R, tw_uR, h1]
    rw [hR]
    exact h q hq hr
/-- a row gets shorter -/
theorem tw_putN {idx r N n : Nat} {CN : String} {T : u_T} {ty : Nat → FieldType} (C : tw_C G X cc own) (hd : decode cc pc = .ok (.putfield idx, 3)) (F : tw_F 5 CN T N ty) (hr : tw_isRow r = true) (hP : tw_P G r) (hkN : 1 < N) (hfin : (T 1).2.2.2 = false) (hw : Cond.fieldLink own idx (T 1).1 (T 1).2.1 (T 1).2.2.1 ∈ lw_g) (hty : ty 1 = .int) (hn : n ≤ (tw_R S r).length) (kk : TW G X (tw_uR S r ((tw_R S r).take n)) L (pc + 3) st) : TW G X S L pc (.int (nI n) :: .ref (tw_ad G r) :: st) := by
  refine tw_putv C hd F (tw_row_sh hr) hP hkN (by simp) hfin hw (by rw [hty]; rfl) (by rw [hty]; rfl) (fun q hq e h => tw_en_uR hr hq (fun _ g hg i x hi => ?_) h) (fun j c hj => ?_) (fun h => tw_wf_uR h ?_ ?_) kk
  · rw [List.getElem?_take] at hi
    split at hi
    · exact hg i x hi
    · cases hi
  · match j, hj with
    | 0, hj =>
      have hc : c = r + 4 := by simpa using hj.symm
      subst hc
      simp [tw_fv]
    | 1, hj =>
      have hc : c = 2 := by simpa using hj.symm
      subst hc
      simp [tw_fv, tw_R, tw_uR]
      have : min n (S.1 r).length = n := Nat.min_eq_left hn
      rw [this]
    | j + 2, hj => simp at hj
  · rw [List.length_take]
    exact Nat.le_trans (Nat.min_le_right _ _) (h r hP hr).1
  · exact fun x hx => (h r hP hr).2 x (List.mem_of_mem_take hx)
/-! arrays -/
theorem tw_enA {r n : Nat} {e : va_E} (h0 : tw_sh r = none) (h1 : tw_ar r = some (0, n)) (he : tw_en G S r e) : e = .inl (tw_cy G 0, n, .inl (tw_A S r)) := by
  simpa only [tw_en, h0, h1] using he
theorem tw_en1 {r n : Nat} {e : va_E} (h0 : tw_sh r = none) (h1 : tw_ar r = some (1, n)) (he : tw_en G S r e) : e = .inl (tw_cy G 1, n, .inl (tw_A S r)) := by
  simpa only [tw_en, h0, h1] using he
theorem tw_en2 {r n : Nat} {e : va_E} (h0 : tw_sh r = none) (h1 : tw_ar r = some (2, n)) (he : tw_en G S r e) : e = .inl (tw_cy G 2, n, .inr (.inl (tw_B S r))) := by
  simpa only [tw_en, h0, h1] using he
theorem tw_cl {i : Nat} (h : i < 2 ^ 31) : (nI i).toNatClampNeg = i := nI_clamp h
theorem tw_iald {r n i : Nat} {v : Int32} (C : tw_C G X cc own) (hd : decode cc pc = .ok (.iaload, 1)) (h0 : tw_sh r = none) (h1 : tw_ar r = some (0, n)) (hP : tw_P G r) (hi : i < n) (hn : n < 2 ^ 31) (hv : tw_A S r i = v) (kk : TW G X S L (pc + 1) (.int v :: st)) : TW G X S L pc (.int (nI i) :: .ref (tw_ad G r) :: st) := by
  intro H locs ls hW hS hl
  have hW0 := hW
  obtain ⟨hwf, f, hPf, hen⟩ := hW
  obtain ⟨q0, hq0⟩ := tw_at (f := f) C hP
  rw [tw_enA h0 h1 (hen r hP)] at hq0
  refine va_iald (D := tw_D G) (tys := tw_tys G) C.1 C.2.1 C.E.1 (show va_P (tw_D G) vwCl (([] : va_W) ++ va_pl (tw_LA G) f) H from hPf) q0 0 hq0 rfl (vp_in_nI hi hn) hd ?_
  rw [nI_clamp (by omega), hv]
  exact kk H locs ls hW0 hS hl
theorem tw_zald {r n i : Nat} {v : Int32} (C : tw_C G X cc own) (hd : decode cc pc = .ok (.baload, 1)) (h0 : tw_sh r = none) (h1 : tw_ar r = some (1, n)) (hP : tw_P G r) (hi : i < n) (hn : n < 2 ^ 31) (hv : tw_A S r i = v) (kk : TW G X S L (pc + 1) (.int v :: st)) : TW G X S L pc (.int (nI i) :: .ref (tw_ad G r) :: st) := by
  intro H locs ls hW hS hl
  have hW0 := hW
  obtain ⟨hwf, f, hPf, hen⟩ := hW
  obtain ⟨q0, hq0⟩ := tw_at (f := f) C hP
  rw [tw_en1 h0 h1 (hen r hP)] at hq0
  refine va_zald (D := tw_D G) (tys := tw_tys G) C.1 C.2.1 C.E.1 (show va_P (tw_D G) vwCl (([] : va_W) ++ va_pl (tw_LA G) f) H from hPf) q0 1 hq0 rfl (vp_in_nI hi hn) hd ?_
  rw [nI_clamp (by omega), hv]
  exact kk H locs ls hW0 hS hl
theorem tw_lald {r n i : Nat} {v : Int64} (C : tw_C G X cc own) (hd : decode cc pc = .ok (.laload, 1)) (h0 : tw_sh r = none) (h1 : tw_ar r = some (2, n)) (hP : tw_P G r) (hi : i < n) (hn : n < 2 ^ 31) (hv : tw_B S r i = v) (kk : TW G X S L (pc + 1) (.long v :: st)) : TW G X S L pc (.int (nI i) :: .ref (tw_ad G r) :: st) := by
  intro H locs ls hW hS hl
  have hW0 := hW
  obtain ⟨hwf, f, hPf, hen⟩ := hW
  obtain ⟨q0, hq0⟩ := tw_at (f := f) C hP
  rw [tw_en2 h0 h1 (hen r hP)] at hq0
  refine va_lald (D := tw_D G) (tys := tw_tys G) C.1 C.2.1 C.E.1 (show va_P (tw_D G) vwCl (([] : va_W) ++ va_pl (tw_LA G) f) H from hPf) q0 2 hq0 rfl (vp_in_nI hi hn) hd ?_
  rw [nI_clamp (by omega), hv]
  exact kk H locs ls hW0 hS hl
/-- frames' rows, heaps -/
theorem tw_aald4 {r n i : Nat} (C : tw_C G X cc own) (hd : decode cc pc = .ok (.aaload, 1)) (h0 : tw_sh r = none) (h1 : tw_ar r = some (4, n)) (hP : tw_P G r) (hi : i < n) (hn : n < 2 ^ 31) (kk : TW G X S L (pc + 1) (.ref (tw_ad G (34 + 2 * i)) :: st)) : TW G X S L pc (.int (nI i) :: .ref (tw_ad G r) :: st) := by
  intro H locs ls hW hS hl
  have hW0 := hW
  obtain ⟨hwf, f, hPf, hen⟩ := hW
  obtain ⟨q0, hq0⟩ := tw_at (f := f) C hP
  have he := hen r hP
  simp only [tw_en, h0, h1] at he
  rw [he] at hq0
  refine va_aldq (D := tw_D G) (tys := tw_tys G) C.1 C.2.1 C.E.1 (show va_P (tw_D G) vwCl (([] : va_W) ++ va_pl (tw_LA G) f) H from hPf) q0 3 hq0 rfl (vp_in_nI hi hn) hd ?_
  rw [nI_clamp (by omega)]
  exact kk H locs ls hW0 hS hl
theorem tw_aald5 {r n i : Nat} (C : tw_C G X cc own) (hd : decode cc pc = .ok (.aaload, 1)) (h0 : tw_sh r = none) (h1 : tw_ar r = some (5, n)) (hP : tw_P G r) (hi : i < n) (hn : n < 2 ^ 31) (kk : TW G X S L (pc + 1) (.ref (tw_ad G (22 + 4 * i)) :: st)) : TW G X S L pc (.int (nI i) :: .ref (tw_ad G r) :: st) := by
  intro H locs ls hW hS hl
  have hW0 := hW
  obtain ⟨hwf, f, hPf, hen⟩ := hW
  obtain ⟨q0, hq0⟩ := tw_at (f := f) C hP
  have he := hen r hP
  simp only [tw_en, h0, h1] at he
  rw [he] at hq0
  refine va_aldq (D := tw_D G) (tys := tw_tys G) C.1 C.2.1 C.E.1 (show va_P (tw_D G) vwCl (([] : va_W) ++ va_pl (tw_LA G) f) H from hPf) q0 4 hq0 rfl (vp_in_nI hi hn) hd ?_
  rw [nI_clamp (by omega)]
  exact kk H locs ls hW0 hS hl
theorem tw_rald {r i x : Nat} (C : tw_C G X cc own) (hd : decode cc pc = .ok (.iaload, 1)) (hr : tw_isRow r = true) (hP : tw_P G r) (hP1 : tw_P G (r + 1)) (hx : (tw_R S r)[i]? = some x) (kk : TW G X S L (pc + 1) (.int (nI x) :: st)) : TW G X S L pc (.int (nI i) :: .ref (tw_ad G (r + 1)) :: st) := by
  intro H locs ls hW hS hl
  have hW0 := hW
  obtain ⟨hwf, f, hPf, hen⟩ := hW
  obtain ⟨q0, hq0⟩ := tw_at (f := f) C hP1
  have he := hen _ hP1
  simp only [tw_en, tw_row_a0 hr, tw_row_ar hr, Nat.add_sub_cancel] at he
  obtain ⟨g, he, hg⟩ := he
  rw [he] at hq0
  have hc := tw_row_cap hr
  have hil := (List.getElem?_eq_some_iff.mp hx).1
  have hlc := (hwf r hP hr).1
  refine va_iald (D := tw_D G) (tys := tw_tys G) C.1 C.2.1 C.E.1 (show va_P (tw_D G) vwCl (([] : va_W) ++ va_pl (tw_LA G) f) H from hPf) q0 0 hq0 rfl (vp_in_nI (by omega) (by omega)) hd ?_
  rw [nI_clamp (by omega), hg i x hx]
  exact kk H locs ls hW0 hS hl
theorem tw_alen {r kd n : Nat} (C : tw_C G X cc own) (hd : decode cc pc = .ok (.arraylength, 1)) (h0 : tw_sh r = none) (h1 : tw_ar r = some (kd, n)) (hkd : kd = 0 ∨ kd = 3) (hP : tw_P G r) (kk : TW G X S L (pc + 1) (.int (nI n) :: st)) : TW G X S L pc (.ref (tw_ad G r) :: st) := by
  intro H locs ls hW hS hl
  have hW0 := hW
  obtain ⟨hwf, f, hPf, hen⟩ := hW
  obtain ⟨q0, hq0⟩ := tw_at (f := f) C hP
  have he := hen r hP
  have key : ∃ g : Nat → Int32, f (tw_ad G r) = .inl (tw_cy G 0, n, .inl g) := by
    rcases hkd with rfl | rfl
    · exact ⟨_, tw_enA h0 h1 he⟩
    · simp only [tw_en, h0, h1] at he
      obtain ⟨g, he, -⟩ := he
      exact ⟨g, he⟩
  obtain ⟨g, hg⟩ := key
  rw [hg] at hq0
  exact va_alen (D := tw_D G) (tys := tw_tys G) C.1 C.2.1 C.E.1 (show va_P (tw_D G) vwCl (([] : va_W) ++ va_pl (tw_LA G) f) H from hPf) q0 0 hq0 rfl rfl hd (kk H locs ls hW0 hS hl)
theorem tw_ast0 {r : Nat} {S' : tw_S} {e : va_E} {f : Nat → va_E} {H1 : Heap} {k : Nat} (C : tw_C G X cc own) (hP : tw_P G r) (hwf : tw_wf G S') (hen : ∀ q, tw_P G q → tw_en G S q (f (tw_ad G q))) (hk : (([] : va_W) ++ va_pl (tw_LA G) f)[k]? = some (tw_ad G r, f (tw_ad G r))) (hP1 : va_P (tw_D G) vwCl ((([] : va_W) ++ va_pl (tw_LA G) f).set k (tw_ad G r, e)) H1) (hag : ∀ q, q ≠ r → ∀ e, tw_en G S q e → tw_en G S' q e) (he : tw_en G S' r e) : tw_W G S' H1 := by
  have hDf : va_D (tx_A X) (([] : va_W) ++ va_pl (tw_LA G) f) := C.E.2.1 f
  rw [va_pl_set hDf (C.E.2.2.1 r hP) hk] at hP1
  refine ⟨hwf, va_up f (tw_ad G r) e, hP1, fun q hq => ?_⟩
  by_cases hqr : q = r
  · subst hqr
    rw [va_up_self]
    exact he
  · rw [va_up_ne _ _ (fun z => hqr (C.E.2.2.2 q r hq hP z))]
    exact hag q hqr _ (hen q hq)
theorem tw_iast {r n i : Nat} {x : Int32} (C : tw_C G X cc own) (hd : decode cc pc = .ok (.iastore, 1)) (h0 : tw_sh r = none) (h1 : tw_ar r = some (0, n)) (hP : tw_P G r) (hi : i < n) (hn : n < 2 ^ 31) (kk : TW G X (tw_uA S r i x) L (pc + 1) st) : TW G X S L pc (.int x :: .int (nI i) :: .ref (tw_ad G r) :: st) := by
  intro H locs ls hW hS hl
  obtain ⟨hwf, f, hPf, hen⟩ := hW
  obtain ⟨q0, hq0⟩ := tw_at (f := f) C hP
  have hq1 := hq0
  rw [tw_enA h0 h1 (hen r hP)] at hq1
  refine va_iast (D := tw_D G) (tys := tw_tys G) C.1 C.2.1 C.E.1 (show va_P (tw_D G) vwCl (([] : va_W) ++ va_pl (tw_LA G) f) H from hPf) (C.E.2.1 f) hS q0 0 hq1 rfl (vp_in_nI hi hn) hd (fun H1 locs1 hP1 hD1 hS1 => ?_)
  rw [nI_clamp (by omega)] at hP1
  refine kk H1 locs1 ls (tw_ast0 (S' := tw_uA S r i x) C hP hwf hen hq0 hP1 (fun q hq e h => tw_en_ag (tw_ag_uA hq) h) ?_) hS1 hl
  simp only [tw_en, h0, h1]
  congr 4
  funext j
  by_cases hj : j = i <;> simp [tw_A, tw_uA, upd, hj]
theorem tw_zast {r n i : Nat} {x y : Int32} (C : tw_C G X cc own) (hd : decode cc pc = .ok (.bastore, 1)) (h0 : tw_sh r = none) (h1 : tw_ar r = some (1, n)) (hP : tw_P G r) (hi : i < n) (hn : n < 2 ^ 31) (hx : vp_nar .boolean x = y) (kk : TW G X (tw_uA S r i y) L (pc + 1) st) : TW G X S L pc (.int x :: .int (nI i) :: .ref (tw_ad G r) :: st) := by
  intro H locs ls hW hS hl
  obtain ⟨hwf, f, hPf, hen⟩ := hW
  obtain ⟨q0, hq0⟩ := tw_at (f := f) C hP
  have hq1 := hq0
  rw [tw_en1 h0 h1 (hen r hP)] at hq1
  refine va_zast (D := tw_D G) (tys := tw_tys G) C.1 C.2.1 C.E.1 (show va_P (tw_D G) vwCl (([] : va_W) ++ va_pl (tw_LA G) f) H from hPf) (C.E.2.1 f) hS q0 1 hq1 rfl (vp_in_nI hi hn) hd (fun H1 locs1 hP1 hD1 hS1 => ?_)
  rw [nI_clamp (by omega), hx] at hP1
  refine kk H1 locs1 ls (tw_ast0 (S' := tw_uA S r i y) C hP hwf hen hq0 hP1 (fun q hq e h => tw_en_ag (tw_ag_uA hq) h) ?_) hS1 hl
  simp only [tw_en, h0, h1]
  congr 4
  funext j
  by_cases hj : j = i <;> simp [tw_A, tw_uA, upd, hj]
theorem tw_last {r n i : Nat} {x : Int64} (C : tw_C G X cc own) (hd : decode cc pc = .ok (.lastore, 1)) (h0 : tw_sh r = none) (h1 : tw_ar r = some (2, n)) (hP : tw_P G r) (hi : i < n) (hn : n < 2 ^ 31) (kk : TW G X (tw_uB S r i x) L (pc + 1) st) : TW G X S L pc (.long x :: .int (nI i) :: .ref (tw_ad G r) :: st) := by
  intro H locs ls hW hS hl
  obtain ⟨hwf, f, hPf, hen⟩ := hW
  obtain ⟨q0, hq0⟩ := tw_at (f := f) C hP
  have hq1 := hq0
  rw [tw_en2 h0 h1 (hen r hP)] at hq1
  refine va_last (D := tw_D G) (tys := tw_tys G) C.1 C.2.1 C.E.1 (show va_P (tw_D G) vwCl (([] : va_W) ++ va_pl (tw_LA G) f) H from hPf) (C.E.2.1 f) hS q0 2 hq1 rfl (vp_in_nI hi hn) hd (fun H1 locs1 hP1 hD1 hS1 => ?_)
  rw [nI_clamp (by omega)] at hP1
  refine kk H1 locs1 ls (tw_ast0 (S' := tw_uB S r i x) C hP hwf hen hq0 hP1 (fun q hq e h => tw_en_ag (tw_ag_uB hq) h) ?_) hS1 hl
  simp only [tw_en, h0, h1]
  congr 5
  funext j
  by_cases hj : j = i <;> simp [tw_B, tw_uB, vp_updL, hj]
theorem tw_rast {r i b : Nat} (C : tw_C G X cc own) (hd : decode cc pc = .ok (.iastore, 1)) (hr : tw_isRow r = true) (hP : tw_P G r) (hP1 : tw_P G (r + 1)) (hi : i < (tw_R S r).length) (hb : b < 256) (kk : TW G X (tw_uR S r ((tw_R S r).set i b)) L (pc + 1) st) : TW G X S L pc (.int (nI b) :: .int (nI i) :: .ref (tw_ad G (r + 1)) :: st) := by
  intro H locs ls hW hS hl
  obtain ⟨hwf, f, hPf, hen⟩ := hW
  obtain ⟨q0, hq0⟩ := tw_at (f := f) C hP1
  have he := hen _ hP1
  simp only [tw_en, tw_row_a0 hr, tw_row_ar hr, Nat.add_sub_cancel] at he
  obtain ⟨g, he, hg⟩ := he
  have hq1 := hq0
  rw [he] at hq1
  have hc := tw_row_cap hr
  have hlc := (hwf r hP hr).1
  refine va_iast (D := tw_D G) (tys := tw_tys G) C.1 C.2.1 C.E.1 (show va_P (tw_D G) vwCl (([] : va_W) ++ va_pl (tw_LA G) f) H from hPf) (C.E.2.1 f) hS q0 0 hq1 rfl (vp_in_nI (by omega) (by omega)) hd (fun H1 locs1 hP2 hD1 hS1 => ?_)
  rw [nI_clamp (by omega)] at hP2
  have hRr : tw_R (tw_uR S r ((tw_R S r).set i b)) r = (tw_R S r).set i b := by simp [tw_R, tw_uR]
  refine kk H1 locs1 ls (tw_ast0 (S' := tw_uR S r ((tw_R S r).set i b)) C hP1 (tw_wf_uR hwf (by rw [List.length_set]; exact hlc) ?_) hen hq0 hP2 (fun q hq e h => ?_) ?_) hS1 hl
  · intro x hx
    rcases List.mem_or_eq_of_mem_set hx with h | h
    · exact (hwf r hP hr).2 x h
    · omega
  · by_cases hqr : q = r
    · subst hqr
      simp only [tw_en, tw_row_sh hr] at h ⊢
      rw [h]
      congr 2
      refine tw_fl_eq (fun j c hj => ?_)
      simp [tw_fv, tw_R, tw_uR, tw_I, tw_J]
    · exact tw_en_ag (tw_ag_uR hqr hq (tw_row_lt hr).1) h
  · simp only [tw_en, tw_row_a0 hr, tw_row_ar hr, Nat.add_sub_cancel, hRr]
    refine ⟨_, rfl, fun j x hx => ?_⟩
    by_cases hj : j = i
    · subst hj
      rw [List.getElem?_set_self hi] at hx
      cases hx
      simp [upd]
    · rw [List.getElem?_set_ne (Ne.symm hj)] at hx
      simp [upd, hj, hg j x hx]
/-- bytes[length] = b; length++ -/
theorem tw_radd {r b N i0 i1 p1 p2 p3 p4 p5 p6 pe : Nat} {T : u_T} {CN : String} {ty : Nat → FieldType} {lv : List (Nat × Value)} (C : tw_C G X cc own) (F : tw_F 5 CN T N ty) (hd : decode cc pc = .ok (.iastore, 1)) (e1 : pc + 1 = p1) (hd1 : decode cc p1 = .ok (.aload_n 0, 1)) (e2 : p1 + 1 = p2) (hd2 : decode cc p2 = .ok (.dup, 1)) (e3 : p2 + 1 = p3) (hd3 : decode cc p3 = .ok (.getfield i0, 3)) (e4 : p3 + 3 = p4) (hd4 : decode cc p4 = .ok (.iconst 1, 1)) (e5 : p4 + 1 = p5) (hd5 : decode cc p5 = .ok (.iadd, 1)) (e6 : p5 + 1 = p6) (hd6 : decode cc p6 = .ok (.putfield i1, 3)) (ee : p6 + 3 = pe) (hr : tw_isRow r = true) (hP : tw_P G r) (hP1 : tw_P G (r + 1)) (hkN : 1 < N) (hfin : (T 1).2.2.2 = false) (hw0 : Cond.fieldLink own i0 (T 1).1 (T 1).2.1 (T 1).2.2.1 ∈ lw_g) (hw1 : Cond.fieldLink own i1 (T 1).1 (T 1).2.1 (T 1).2.2.1 ∈ lw_g) (hty : ty 1 = .int) (j : Nat) (hj : L[j]? = some (0, .ref (tw_ad G r))) (hi : (tw_R S r).length < tw_cap r) (hb : b < 256) (kk : TW G X (tw_uR S r (tw_R S r ++ [b])) L pe st) : TW G X S L pc (.int (nI b) :: .int (nI (tw_R S r).length) :: .ref (tw_ad G (r + 1)) :: st) := by
  subst e1 e2 e3 e4 e5 e6 ee
  intro H locs ls hW hS hl
  obtain ⟨hwf, f, hPf, hen⟩ := hW
  obtain ⟨q0, hq0⟩ := tw_at (f := f) C hP1
  have he := hen _ hP1
  simp only [tw_en, tw_row_a0 hr, tw_row_ar hr, Nat.add_sub_cancel] at he
  obtain ⟨g, he, hg⟩ := he
  have hq1 := hq0
  rw [he] at hq1
  have hc := tw_row_cap hr
  have hlc := (hwf r hP hr).1
  have hDf : va_D (tx_A X) (([] : va_W) ++ va_pl (tw_LA G) f) := C.E.2.1 f
  refine va_iast (D := tw_D G) (tys := tw_tys G) C.1 C.2.1 C.E.1 (show va_P (tw_D G) vwCl (([] : va_W) ++ va_pl (tw_LA G) f) H from hPf) hDf hS q0 0 hq1 rfl (vp_in_nI (by omega) (by omega)) hd (fun H1 locs1 hP2 hD1 hS1 => ?_)
  rw [nI_clamp (by omega), va_pl_set hDf (C.E.2.2.1 _ hP1) hq0] at hP2
  have hne : tw_ad G r ≠ tw_ad G (r + 1) := fun z => by have := C.E.2.2.2 _ _ hP hP1 z; omega
  have hf1 : va_up f (tw_ad G (r + 1)) (.inl (tw_cy G 0, tw_cap r, .inl (upd g (tw_R S r).length (nI b)))) (tw_ad G r) = .inr (5, tw_fl (fun k c => tw_fv (tw_ad G) S r k c) 0 [r + 4, 2]) := by
    rw [va_up_ne _ _ hne]
    have h := hen _ hP
    simpa only [tw_en, tw_row_sh hr] using h
  generalize hf1e : va_up f (tw_ad G (r + 1)) (.inl (tw_cy G 0, tw_cap r, .inl (upd g (tw_R S r).length (nI b)))) = f1 at hP2 hf1
  obtain ⟨q2, hq2⟩ := tw_at (f := f1) C hP
  have hq3 := hq2
  rw [hf1] at hq3
  have hDf1 : va_D (tx_A X) (([] : va_W) ++ va_pl (tw_LA G) f1) := C.E.2.1 f1
  refine lv_aload_n C.1 C.2.1 hd1 rfl (lv_at hl j hj) ?_
  refine lv_dup C.1 C.2.1 hd2 rfl ?_
  refine va_get (D := tw_D G) (v := .int (nI (tw_R S r).length)) (C := CN) (T := T) (N := N) C.1 C.2.1 C.ts F.2.1 C.ow C.E.1 hP2 q2 hq3 F.1 1 hkN (C.ts _ hw0) (fun _ h => h) rfl hd3 ?_
  refine lv_iconst (v := 1) C.1 C.2.1 hd4 (by decide) ?_
  refine lv_iadd C.1 C.2.1 hd5 ?_
  refine va_put (D := tw_D G) (cl := vwCl) (ws := ([] : va_W) ++ va_pl (tw_LA G) f1) (A := tx_A X) (H0 := (tx_s X).heap) (ty := ty 1) (C := CN) (T := T) (N := N) C.1 C.2.1 C.ts F.2.1 ty F.2.2.1 F.2.2.2 C.ow C.E.1 hP2 hDf1 hS1 q2 hq3 F.1 1 hkN (C.ts _ hw1) (fun _ h => h) hfin (F.2.2.1 1 hkN) (by rw [hty]; rfl) (by rw [hty]; rfl) (by simp [tw_fl]) hd6 (fun H2 locs2 hP4 hD2 hS2 => ?_)
  rw [va_pl_set hDf1 (C.E.2.2.1 _ hP) hq2] at hP4
  have hRr : tw_R (tw_uR S r (tw_R S r ++ [b])) r = tw_R S r ++ [b] := by simp [tw_R, tw_uR]
  refine kk H2 locs2 ls ⟨tw_wf_uR hwf (by simp; omega) (fun x hx => ?_), _, hP4, fun q hq => ?_⟩ hS2 hl
  · rcases List.mem_append.mp hx with h | h
    · exact (hwf r hP hr).2 x h
    · simp at h; omega
  · by_cases hqr : q = r
    · subst hqr
      rw [va_up_self]
      simp only [tw_en, tw_row_sh hr]
      have hle : nI (tw_R S q).length + 1 = nI ((tw_R S q ++ [b]).length) := by rw [nI_1]; simp
      simp only [tw_fl, tw_fv, hRr, List.set, hle]
      simp
    · rw [va_up_ne _ _ (fun z => hqr (C.E.2.2.2 q r hq hP z))]
      by_cases hqa : q = r + 1
      · subst hqa
        rw [← hf1e, va_up_self]
        simp only [tw_en, tw_row_a0 hr, tw_row_ar hr, Nat.add_sub_cancel, hRr]
        refine ⟨_, rfl, fun i x hx => ?_⟩
        by_cases hil : i < (tw_R S r).length
        · rw [List.getElem?_append_left hil] at hx
          have : i ≠ (tw_R S r).length := by omega
          simp [upd, this, hg i x hx]
        · rw [List.getElem?_append_right (by omega)] at hx
          have hz : i - (tw_R S r).length < 1 := (List.getElem?_eq_some_iff.mp hx).1
          have hi0 : i = (tw_R S r).length := by omega
          subst hi0
          simp at hx
          simp [upd, hx]
      · rw [← hf1e, va_up_ne _ _ (fun z => hqa (C.E.2.2.2 q _ hq hP1 z))]
        exact tw_en_ag (tw_ag_uR hqr hqa (tw_row_lt hr).1) (hen q hq)
/-- the table of Mode -/
theorem tw_gets {idx : Nat} (C : tw_C G X cc own) (hd : decode cc pc = .ok (.getstatic idx, 3)) (hw : Cond.fieldLink own idx "ShortFrames$Mode" "BYTES" "[I" ∈ lw_g) (kk : TW G X S L (pc + 3) (.ref (tw_t0 G) :: st)) : TW G X S L pc st := fun H locs ls hW hS hl =>
  va_gets C.1 C.2.1 C.Z.1.1 hS C.ow (C.ts _ hw) (fun _ h => h) hd (kk H locs ls hW hS hl)
theorem tw_tlen (C : tw_C G X cc own) (hd : decode cc pc = .ok (.arraylength, 1)) (kk : TW G X S L (pc + 1) (.int (nI 12) :: st)) : TW G X S L pc (.ref (tw_t0 G) :: st) := by
  intro H locs ls hW hS hl
  obtain ⟨cell, h1, h2, h3, h4, h5, h6, h7⟩ := C.Z.2.1
  exact W.alen (n := nI 12) C.1 C.2.1 (by rw [hS.2.1 _ (Array.getElem?_eq_some_iff.mp h1).1 h7]; exact h1) h2 h5 rfl rfl hd (kk H locs ls hW hS hl)
theorem tw_tald {i : Nat} {v : Int32} (C : tw_C G X cc own) (hd : decode cc pc = .ok (.iaload, 1)) (hi : i < 12) (hv : tw_tab i = .int v) (kk : TW G X S L (pc + 1) (.int v :: st)) : TW G X S L pc (.int (nI i) :: .ref (tw_t0 G) :: st) := fun H locs ls hW hS hl =>
  va_ti C.1 C.2.1 C.Z.2.1 hS (vp_in_nI hi (by decide)) (by rw [nI_clamp (by omega)]; exact hv) hd (kk H locs ls hW hS hl)
/-- the law's script -/
theorem tw_slen (C : tw_C G X cc own) (hd : decode cc pc = .ok (.arraylength, 1)) (kk : TW G X S L (pc + 1) (.int (nI (tw_sn G)) :: st)) : TW G X S L pc (.ref (tw_sb G) :: st) := by
  intro H locs ls hW hS hl
  obtain ⟨cell, h1, h2, h3, h4, h5, h6, h7⟩ := C.Z.2.2
  exact W.alen (n := nI (tw_sn G)) C.1 C.2.1 (by rw [hS.2.1 _ (Array.getElem?_eq_some_iff.mp h1).1 h7]; exact h1) h2 h5 rfl rfl hd (kk H locs ls hW hS hl)
theorem tw_sald {i : Nat} {v : Int32} (C : tw_C G X cc own) (hd : decode cc pc = .ok (.iaload, 1)) (hi : i < tw_sn G) (hn : tw_sn G < 2 ^ 31) (hv : tw_sx G i = v) (kk : TW G X S L (pc + 1) (.int v :: st)) : TW G X S L pc (.int (nI i) :: .ref (tw_sb G) :: st) := fun H locs ls hW hS hl =>
  va_ti C.1 C.2.1 C.Z.2.2 hS (vp_in_nI hi hn) (by rw [nI_clamp (by omega)]; show Value.int _ = Value.int _; rw [hv]) hd (kk H locs ls hW hS hl)
/-! ends -/
theorem tw_ireturn {α : Type} {inj : α → Option Value} {post : α → tw_S → Prop} {ret : Option FieldType} {ty : FieldType} {v : α} {x : Int32} (C : tw_C G X cc own) (Q : tw_Q G X ret inj post) (hd : decode cc pc = .ok (.ireturn, 1)) (hret : ret = some ty) (hn : narrow ty (.int x) = .int x) (hv : inj v = some (.int x)) (hp : post v S) : TW G X S L pc [.int x] := by
  intro H locs ls hW hS hl
  obtain ⟨hr, hA, hQ⟩ := Q
  rw [hA] at hS
  unfold tx_W
  rw [hQ]
  exact W.zret C.1 C.2.1 (hr.trans hret) hn (fun t ht hW' => ⟨⟨v, S, by rw [hv], hp, by rw [ht]; exact hW⟩, hS.F ht⟩) hS.2.2 hd C.lk
theorem tw_lreturn {α : Type} {inj : α → Option Value} {post : α → tw_S → Prop} {ret : Option FieldType} {v : α} {x : Int64} (C : tw_C G X cc own) (Q : tw_Q G X ret inj post) (hd : decode cc pc = .ok (.lreturn, 1)) (hret : ret = some .long) (hv : inj v = some (.long x)) (hp : post v S) : TW G X S L pc [.long x] := by
  intro H locs ls hW hS hl
  obtain ⟨hr, hA, hQ⟩ := Q
  rw [hA] at hS
  unfold tx_W
  rw [hQ]
  exact W.lret C.1 C.2.1 (hr.trans hret) (fun t ht hW' => ⟨⟨v, S, by rw [hv], hp, by rw [ht]; exact hW⟩, hS.F ht⟩) hS.2.2 hd C.lk
theorem tw_areturn {α : Type} {inj : α → Option Value} {post : α → tw_S → Prop} {ret : Option FieldType} {cn : String} {v : α} {a : Nat} (C : tw_C G X cc own) (Q : tw_Q G X ret inj post) (hd : decode cc pc = .ok (.areturn, 1)) (hret : ret = some (.object cn)) (hv : inj v = some (.ref a)) (hp : post v S) : TW G X S L pc [.ref a] := by
  intro H locs ls hW hS hl
  obtain ⟨hr, hA, hQ⟩ := Q
  rw [hA] at hS
  unfold tx_W
  rw [hQ]
  exact W.aret C.1 C.2.1 (hr.trans hret) (Or.inl ⟨cn, rfl⟩) (Or.inr ⟨a, rfl⟩) (fun t ht hW' => ⟨⟨v, S, by rw [hv], hp, by rw [ht]; exact hW⟩, hS.F ht⟩) hS.2.2 hd C.lk
theorem tw_return {α : Type} {inj : α → Option Value} {post : α → tw_S → Prop} {ret : Option FieldType} {v : α} (C : tw_C G X cc own) (Q : tw_Q G X ret inj post) (hd : decode cc pc = .ok (.return_, 1)) (hret : ret = none) (hv : inj v = none) (hp : post v S) : TW G X S L pc [] := by
  intro H locs ls hW hS hl
  obtain ⟨hr, hA, hQ⟩ := Q
  rw [hA] at hS
  unfold tx_W
  rw [hQ]
  exact W.vret C.1 C.2.1 (hr.trans hret) (fun t ht hW' => ⟨⟨v, S, by rw [hv], hp, by rw [ht]; exact hW⟩, hS.F ht⟩) hS.2.2 hd C.lk
/-! beginnings -/
theorem tw_M.of {α : Type} {inj : α → Option Value} {post : α → tw_S → Prop} {ret : Option FieldType} {y : MethodName} {bytes : ByteArray} {maxL fr lo : Nat} {av : List Value} (hy : plainName y.cls = true) (hlen : (lg_sl av).length ≤ maxL) (hL : lv_args 0 av = L)
    (body : ∀ X : tw_X, tw_C G X bytes y.cls → tw_N X maxL fr lo → tw_Q G X ret inj post → TW G X S L 0 []) : tw_M G y bytes maxL ret fr lo av S inj post := by
  intro sz
  refine Met.ofW (cc := bytes) (maxL := maxL) (ret := ret) hy rfl ?_
  intro p e s m args below meth c s₁ B hml hv
  obtain ⟨rfl, hsz, hW, hE, hZ⟩ := hv
  subst hsz
  have hts := atoms_spec (ws := Cond.code y bytes maxL ret :: lw_g) B.pre
  have hown : s.vm.findClass y.cls = some m.cls := findClass_of_methodNamed B.named
  have hl := lv_entry av (n := maxL) hlen
  rw [hL] at hl
  rw [lg_entry_eq]
  exact body (p, e, _, s, m, av.toArray, below, meth, c, maxL, tw_AA G s.heap.size, 0, 0, _) ⟨B.exec, B.bytes, hml, hown, fun w hw => hts w (List.mem_cons_of_mem _ hw), hE, hZ, fun q h => Or.inr h, B.notSynchronized⟩ ⟨rfl, rfl, rfl, Nat.zero_le _, Nat.zero_le _⟩ ⟨B.returns, rfl, rfl⟩ s.heap [] _ hW va_S.rf hl
/-! calls -/
def tw_mV (y : MethodName) (bytes : ByteArray) (maxL : Nat) (ret : Option FieldType) (n : Nat) : Prop := Cond.instanceMethod y ∈ lw_g ∧ Cond.selects y.cls y y ∈ lw_g ∧ Cond.initialized y.cls ∈ lw_g ∧ Cond.code y bytes maxL ret ∈ lw_g ∧ (y.cls ≠ "java/lang/invoke/MethodHandle" ∧ y.cls ≠ "java/lang/invoke/VarHandle" ∧ (parseMethodDescriptor y.desc).map (fun d => d.parameters.length) = some n)
def tw_mS (y : MethodName) (bytes : ByteArray) (maxL : Nat) (ret : Option FieldType) (n : Nat) : Prop := Cond.static y ∈ lw_g ∧ Cond.initialized y.cls ∈ lw_g ∧ Cond.code y bytes maxL ret ∈ lw_g ∧ (y.cls ≠ "java/lang/invoke/MethodHandle" ∧ y.cls ≠ "java/lang/invoke/VarHandle" ∧ (parseMethodDescriptor y.desc).map (fun d => d.parameters.length) = some n)
theorem tw_AAs (C : tw_C G X cc own) {sz : Nat} (hsz : (tx_s X).heap.size ≤ sz) : ∀ q, tw_AA G sz q → tx_A X q := by
  intro q h
  rcases h with h | h
  · have hD := C.E.2.1 (fun _ => .inr (0, []))
    obtain ⟨k, hk⟩ := List.getElem?_of_mem (show ((q, Sum.inr (0, [])) : Nat × va_E) ∈ va_pl (tw_LA G) (fun _ => .inr (0, [])) from List.mem_map.mpr ⟨q, h, rfl⟩)
    exact hD.2 k _ hk
  · exact C.A q (Nat.le_trans hsz h)
theorem tw_pre {U : State} {H : Heap} {locs : List Loc} (C : tw_C G X cc own) (hW : tw_W G S H) (hS : va_S (tx_A X) (tx_s X).heap H locs) (hU : U.heap = H) (hWh : (tx_s X).WarmedH U.vm) : U.heap.size = H.size ∧ tw_W G S U.heap ∧ tw_E G (tw_AA G H.size) U ∧ tw_Z G (tw_AA G H.size) U U.heap := by
  have hWm := hWh.alike
  refine ⟨by rw [hU], by rw [hU]; exact hW, ⟨va_K.moved hWm C.E.1, fun f => (C.E.2.1 f).weaken (fun k q hk _ => ?_), C.E.2.2⟩, ?_⟩
  · obtain ⟨a, ha, rfl⟩ := List.mem_map.mp (List.mem_of_getElem? hk)
    exact Or.inl ha
  · have hkp : ∀ a : Nat, a < (tx_s X).heap.size → ¬ tx_A X a → H[a]? = (tx_s X).heap[a]? := hS.2.1
    rw [hU]
    exact ⟨⟨((C.Z.1.1.kept hkp).narrow (tw_AAs C hS.1)).moved hWm, tw_NW_warm hWh C.Z.1.2⟩, ((C.Z.2.1.kept hkp).narrow (tw_AAs C hS.1)).moved hWm, ((C.Z.2.2.kept hkp).narrow (tw_AAs C hS.1)).moved hWm⟩
theorem tw_blind {sz : Nat} {av : List Value} : FrameBlind (tw_Pc G sz av S) := by
  intro a U g mk h
  obtain ⟨q0, q1, q2, ⟨q3, q4⟩, ⟨q5, q7⟩, q6, q8⟩ := h
  have hal : U.vm.Alike (U.calling g mk a).vm := Vm.Alike.refl U.vm
  exact ⟨q0, q1, q2, ⟨va_K.moved (u := U) (U := U.calling g mk a) hal q3, q4⟩, ⟨va_Z.moved (U := U.calling g mk a) hal q5, tw_NW_same (s := U) (U := U.calling g mk a) rfl q7⟩, va_T.moved (U := U.calling g mk a) hal q6, va_T.moved (U := U.calling g mk a) hal q8⟩
theorem tw_words (C : tw_C G X cc own) {y : MethodName} {bytes : ByteArray} {maxL : Nat} {ret : Option FieldType} (hc : Cond.code y bytes maxL ret ∈ lw_g) : ∀ w ∈ (Cond.code y bytes maxL ret :: lw_g), ∀ (a' : Array Value) (U : State), (tx_s X).WarmedH U.vm → w.before a' U = true := by
  refine pay_in (big := lw_g) C.ts (fun w hw => ?_)
  have hm : w ∈ lw_g := by
    rcases List.mem_cons.mp hw with h | h
    · rw [h]; exact hc
    · exact h
  exact ⟨hm, good_of_word (wd_good w hm)⟩
theorem tw_after {α : Type} {inj : α → Option Value} {post : α → tw_S → Prop} {H : Heap} {locs : List Loc} {ls : Array Slot} {a : Array Value} {rest : List Value} (C : tw_C G X cc own) (hS : va_S (tx_A X) (tx_s X).heap H locs) (hl : lv_has ls (tx_n X) L)
    (hr : va_Run (tx_p X) (tw_l G) (tx_e X) (tx_R X) (tx_s X) (tx_m X) (tx_a X) (tx_b X) (tx_t X) (tx_c X) H locs (tx_k X) (tx_z X) 0 0 (F0 (tx_m X) pc ls st) rest (tw_Qc G H.size inj post a) (tw_AA G H.size))
    (kk : ∀ (v : α) (S' : tw_S), post v S' → TW G X S' L (pc + 3) ((inj v).toList ++ rest)) : tx_W G X H locs pc ls st := by
  intro T hT Xs
  obtain ⟨v, st₀, t, T', L1, h0, X', hL1, e1, e2, ⟨⟨x, S', hv, hpo, hWt⟩, hz, hk⟩, stp⟩ := hr T hT Xs
  cases hv
  rw [h0] at hz hk
  obtain ⟨t2, a1, b1⟩ := kk x S' hpo T'.heap (locs ++ L1) ls (by rw [e1]; exact hWt)
    ⟨Nat.le_trans hS.1 (by rw [e1]; exact hz), fun q h1 h2 => by
      rw [e1, hk q (Nat.lt_of_lt_of_le h1 hS.1) (fun z => h2 (tw_AAs C hS.1 q z))]
      exact hS.2.1 q h1 h2, fun q hq => by
      rcases List.mem_append.mp hq with h | h
      · exact hS.2.2 q h
      · exact tw_AAs C hS.1 _ (hL1 q h)⟩ hl T' rfl X'
  exact ⟨t2, stp t2 a1, b1⟩
theorem tw_callV {α : Type} {inj : α → Option Value} {post : α → tw_S → Prop} {ret : Option FieldType} {y : MethodName} {bytes : ByteArray} {maxL fr lo nL fr0 lo0 idx n r ci N : Nat} {cs : List Nat} {T : u_T} {As rest : List Value} (C : tw_C G X cc own) (NN : tw_N X nL fr0 lo0) (hM : tw_M G y bytes maxL ret fr lo (.ref (tw_ad G r) :: As) S inj post) (hm : tw_mV y bytes maxL ret n) (hw : Cond.methodLink own idx y ∈ lw_g) (hAs : As.length = n) (hP : tw_P G r) (hsh : tw_sh r = some (ci, cs)) (hcl : vwCl[ci]? = some (y.cls, T, N)) (hR : fr + 1 ≤ fr0 ∧ 8 + (maxL + 11) + lo ≤ lo0) (hst : st = As.reverse ++ .ref (tw_ad G r) :: rest) (hrm : (rest.map fun v => v.category).sum ≤ 8) (hd : decode cc pc = .ok (.invokevirtual idx, 3))
    (kk : ∀ (v : α) (S' : tw_S), post v S' → TW G X S' L (pc + 3) ((inj v).toList ++ rest)) : TW G X S L pc st := by
  intro H locs ls hW hS hl
  have hW0 := hW
  obtain ⟨hwf, f, hPf, hen⟩ := hW
  have he := hen r hP
  simp only [tw_en, hsh] at he
  obtain ⟨q0, hq0⟩ := tw_at (f := f) C hP
  rw [he] at hq0
  have hcw : CallW (tx_R X) (tx_s X) (tx_a X) own y.cls idx y bytes maxL ret (Cond.code y bytes maxL ret :: lw_g) ({ frames := fr, cells := 0, slots := 0, locals := lo }) 0 0 n :=
    ⟨⟨rfl, rfl, by rw [NN.2.1]; exact hR.1, by rw [NN.2.2.1]; exact hR.2, tw_words C hm.2.2.2.1, List.mem_cons_self, C.ts _ hm.2.2.2.1, C.ts _ hm.2.2.1, ⟨hm.2.2.2.2.1, hm.2.2.2.2.2.1⟩, fun sig h => by
      have h2 := hm.2.2.2.2.2.2
      rw [h] at h2
      exact (Option.some.inj h2).symm, C.ts _ hw⟩, C.ts _ hm.1, C.ts _ hm.2.1⟩
  have hp : PreV (tx_s X) H y.cls (tw_ad G r) (tw_Pc G H.size (.ref (tw_ad G r) :: As) S) As := ⟨tw_blind, va_recv C.E.1 (show va_P (tw_D G) vwCl (([] : va_W) ++ va_pl (tw_LA G) f) H from hPf) hcl hq0, fun U hU hWm => ⟨rfl, tw_pre C hW0 hS hU hWm⟩⟩
  exact tw_after C hS hl (va_runV (n := n) ⟨C.1, C.2.1, C.2.2.1, C.ow, C.ts⟩ (hM H.size) hcw hp rfl hAs hl.1 hst (lv_room hrm) hd ⟨NN.2.2.2.1, NN.2.2.2.2⟩) kk
theorem tw_callS {α : Type} {inj : α → Option Value} {post : α → tw_S → Prop} {ret : Option FieldType} {y : MethodName} {bytes : ByteArray} {maxL fr lo nL fr0 lo0 idx n : Nat} {As rest : List Value} (C : tw_C G X cc own) (NN : tw_N X nL fr0 lo0) (hM : tw_M G y bytes maxL ret fr lo As S inj post) (hm : tw_mS y bytes maxL ret n) (hw : Cond.methodLink own idx y ∈ lw_g) (hAs : As.length = n) (hR : fr + 1 ≤ fr0 ∧ 8 + (maxL + 11) + lo ≤ lo0) (hst : st = As.reverse ++ rest) (hrm : (rest.map fun v => v.category).sum ≤ 8) (hd : decode cc pc = .ok (.invokestatic idx, 3))
    (kk : ∀ (v : α) (S' : tw_S), post v S' → TW G X S' L (pc + 3) ((inj v).toList ++ rest)) : TW G X S L pc st := by
  intro H locs ls hW hS hl
  have hcw : CallB (tx_R X) (tx_s X) (tx_a X) own idx y bytes maxL ret (Cond.code y bytes maxL ret :: lw_g) ({ frames := fr, cells := 0, slots := 0, locals := lo }) 0 0 n ∧ (Cond.static y).before (tx_a X) (tx_s X) = true :=
    ⟨⟨rfl, rfl, by rw [NN.2.1]; exact hR.1, by rw [NN.2.2.1]; exact hR.2, tw_words C hm.2.2.1, List.mem_cons_self, C.ts _ hm.2.2.1, C.ts _ hm.2.1, ⟨hm.2.2.2.1, hm.2.2.2.2.1⟩, fun sig h => by
      have h2 := hm.2.2.2.2.2
      rw [h] at h2
      exact (Option.some.inj h2).symm, C.ts _ hw⟩, C.ts _ hm.1⟩
  have hp : PreS (tx_s X) H (tw_Pc G H.size As S) As := ⟨tw_blind, fun U hU hWm => ⟨rfl, tw_pre C hW hS hU hWm⟩⟩
  exact tw_after C hS hl (va_runS (n := n) ⟨C.1, C.2.1, C.2.2.1, C.ow, C.ts⟩ (hM H.size) hcw hp rfl hAs hl.1 hst (lv_room hrm) hd ⟨NN.2.2.2.1, NN.2.2.2.2⟩) kk

end LY
