/-! constructors: the cells of the law's own lie one behind another, from a0 on; g tells what each holds -/
def upE (g : Nat → va_E) (p : Nat) (e : va_E) : Nat → va_E := fun i => if i = p then e else g i
def blk (a0 : Nat) (g : Nat → va_E) (n : Nat) : va_W := (List.range n).map (fun i => (a0 + i, g i))
theorem blk_len (a0 : Nat) (g : Nat → va_E) (n : Nat) : (blk a0 g n).length = n := by simp [blk]
theorem blk_get {a0 : Nat} {g : Nat → va_E} {n p : Nat} (h : p < n) : (blk a0 g n)[p]? = some (a0 + p, g p) := by
  rw [blk, List.getElem?_map, List.getElem?_range h]; rfl
theorem blk_out {a0 : Nat} {g : Nat → va_E} {n p : Nat} {q : Nat × va_E} (h : (blk a0 g n)[p]? = some q) : p < n ∧ q = (a0 + p, g p) := by
  have hp : p < n := by
    have := (List.getElem?_eq_some_iff.mp h).1
    rwa [blk_len] at this
  rw [blk_get hp] at h
  exact ⟨hp, (Option.some.inj h).symm⟩
theorem blk_set {a0 : Nat} {g : Nat → va_E} {n p : Nat} {e : va_E} (h : p < n) : (blk a0 g n).set p (a0 + p, e) = blk a0 (upE g p e) n := by
  apply List.ext_getElem?
  intro i
  by_cases hi : i < n
  · rw [blk_get hi]
    by_cases hx : i = p
    · subst hx
      rw [List.getElem?_set_self (by rw [blk_len]; exact hi), upE, if_pos rfl]
    · rw [List.getElem?_set_ne (Ne.symm hx), blk_get hi, upE, if_neg hx]
  · rw [List.getElem?_eq_none (by rw [List.length_set, blk_len]; omega), List.getElem?_eq_none (by rw [blk_len]; omega)]
theorem blk_D {a0 : Nat} {g : Nat → va_E} {n : Nat} {A : Nat → Prop} (h : ∀ q, a0 ≤ q → A q) : va_D A (blk a0 g n) := by
  refine ⟨fun i j p q hi hj e => ?_, fun k q hk => ?_⟩
  · obtain ⟨-, rfl⟩ := blk_out hi
    obtain ⟨-, rfl⟩ := blk_out hj
    have : a0 + i = a0 + j := e
    omega
  · obtain ⟨-, rfl⟩ := blk_out hk
    exact h _ (Nat.le_add_right _ _)
theorem blk_P {D : va_G} {a0 : Nat} {g : Nat → va_E} {n : Nat} {e : va_E} {H H1 : Heap} (hP : va_P D vwCl (blk a0 g n) H) (z : H.size = a0 + n) (o1 : ∀ q, q < H.size → H1[q]? = H[q]?) (he : va_at D vwCl (a0 + n, e) H1) : va_P D vwCl (blk a0 (upE g n e) (n + 1)) H1 := by
  intro k q hk
  obtain ⟨hkn, rfl⟩ := blk_out hk
  by_cases hx : k = n
  · subst hx
    rw [upE, if_pos rfl]; exact he
  · rw [upE, if_neg hx]
    exact (hP k _ (blk_get (by omega))).kept (o1 (a0 + k) (by omega))
def tk_V (U : State) : Prop := tw_NW U ∧ va_AO RX7 U ∧ va_AO RX2 U
def tk_C (G : tw_G) (X : tw_X) (cc : ByteArray) (own : String) (a0 : Nat) : Prop := (tx_p X).tables.exec = Jvm.exec ∧ (tx_c X).code = cc ∧ (tx_c X).maxLocals = tx_n X ∧ (tx_s X).vm.findClass own = some (tx_m X).cls ∧ (∀ w ∈ lw_g, w.before (tx_a X) (tx_s X) = true) ∧ va_K (tw_D G) vwCl (tw_tys G) (tx_s X) ∧ (∀ q, a0 ≤ q → tx_A X q) ∧ (tx_t X).locks = false ∧ (tx_t X).name = "<init>" ∧ tk_V (tx_s X)
def TK (G : tw_G) (X : tw_X) (a0 bn : Nat) (g : Nat → va_E) (kc zc : Nat) (L : List (Nat × Value)) (pc : Nat) (st : List Value) : Prop := ∀ (H : Heap) (locs : List Loc) (ls : Array Slot), H.size = a0 + bn → va_P (tw_D G) vwCl (blk a0 g bn) H → va_S (tx_A X) (tx_s X).heap H locs → lv_has ls (tx_n X) L → W (tx_p X) (tw_l G) (tx_e X) (tx_R X) (tx_s X) (tx_m X) (tx_a X) (tx_b X) (tx_t X) (tx_c X) H locs kc zc (tx_Q X) (F0 (tx_m X) pc ls st)
section BK0
variable {G : tw_G} {X : tw_X} {a0 bn kc zc : Nat} {g : Nat → va_E} {L L' : List (Nat × Value)} {pc : Nat} {st : List Value} {cc : ByteArray} {own : String}
theorem TK.c {L : List (Nat × Value)} (hs : ∀ q ∈ L', q ∈ L) (k : TK G X a0 bn g kc zc L' pc st) : TK G X a0 bn g kc zc L pc st := fun H locs ls h1 hW hS hl => k H locs ls h1 hW hS ⟨hl.1, hl.2.1, fun q hq => hl.2.2 q (hs q hq)⟩
theorem TK.ge {g' : Nat → va_E} (e : g = g') (k : TK G X a0 bn g' kc zc L pc st) : TK G X a0 bn g kc zc L pc st := e ▸ k
theorem tk_iconst {n : Int} {v : Int32} (C : tk_C G X cc own a0) (hd : decode cc pc = .ok (.iconst n, 1)) (hv : Int32.ofInt n = v) (k : TK G X a0 bn g kc zc L (pc + 1) (.int v :: st)) : TK G X a0 bn g kc zc L pc (st) := fun H locs ls hs hW hS hl => lv_iconst C.1 C.2.1 hd hv (k H locs ls hs hW hS hl)
theorem tk_bipush {n : Int} {v : Int32} (C : tk_C G X cc own a0) (hd : decode cc pc = .ok (.bipush n, 2)) (hv : (Int8.ofInt n).toInt32 = v) (k : TK G X a0 bn g kc zc L (pc + 2) (.int v :: st)) : TK G X a0 bn g kc zc L pc (st) := fun H locs ls hs hW hS hl => lv_bipush C.1 C.2.1 hd hv (k H locs ls hs hW hS hl)
theorem tk_sipush {n : Int} {v : Int32} (C : tk_C G X cc own a0) (hd : decode cc pc = .ok (.sipush n, 3)) (hv : (Int16.ofInt n).toInt32 = v) (k : TK G X a0 bn g kc zc L (pc + 3) (.int v :: st)) : TK G X a0 bn g kc zc L pc (st) := fun H locs ls hs hW hS hl => lv_sipush C.1 C.2.1 hd hv (k H locs ls hs hW hS hl)
theorem tk_lconst {n : Fin 2} {v : Int64} (C : tk_C G X cc own a0) (hd : decode cc pc = .ok (.lconst n, 1)) (hv : Int64.ofNat (n : Nat) = v) (k : TK G X a0 bn g kc zc L (pc + 1) (.long v :: st)) : TK G X a0 bn g kc zc L pc (st) := fun H locs ls hs hW hS hl => lv_lconst C.1 C.2.1 hd hv (k H locs ls hs hW hS hl)
theorem tk_ldc2 {index : Nat} {v w : Int64} (C : tk_C G X cc own a0) (hd : decode cc pc = .ok (.ldc2_w index, 3)) (hc : Cond.constantLong own index v ∈ lw_g) (hv : v = w) (k : TK G X a0 bn g kc zc L (pc + 3) (.long w :: st)) : TK G X a0 bn g kc zc L pc (st) := fun H locs ls hs hW hS hl => lv_ldc2 C.1 C.2.1 C.2.2.2.1 (C.2.2.2.2.1 _ (hv ▸ hc)) hd (k H locs ls hs hW hS hl)
theorem tk_iload_n {k : Fin 4} {x : Int32} (C : tk_C G X cc own a0) (hd : decode cc pc = .ok (.iload_n k, 1)) (j : Nat) (hj : L[j]? = some ((k : Nat), .int x)) (k : TK G X a0 bn g kc zc L (pc + 1) (.int x :: st)) : TK G X a0 bn g kc zc L pc (st) := fun H locs ls hs hW hS hl => lv_iload_n C.1 C.2.1 hd rfl (lv_at hl j hj) (k H locs ls hs hW hS hl)
theorem tk_iload {i : Nat} {x : Int32} (C : tk_C G X cc own a0) (hd : decode cc pc = .ok (.iload i, 2)) (j : Nat) (hj : L[j]? = some (i, .int x)) (k : TK G X a0 bn g kc zc L (pc + 2) (.int x :: st)) : TK G X a0 bn g kc zc L pc (st) := fun H locs ls hs hW hS hl => lv_iload C.1 C.2.1 hd (lv_at hl j hj) (k H locs ls hs hW hS hl)
theorem tk_istore_n {x : Int32} {nL fr lo : Nat} {k : Fin 4} {i : Nat} (C : tk_C G X cc own a0) (N : tx_n X = nL ∧ (tx_R X).frames = fr ∧ (tx_R X).locals = lo) (hd : decode cc pc = .ok (.istore_n k, 1)) (hi : (k : Nat) = i) (hn : i < nL) (hl' : (i, Value.int x) :: L.filter (fun q => !(q.1 == i) && !(q.1 + 1 == i && q.2.category == 2)) = L') (k' : TK G X a0 bn g kc zc L' (pc + 1) st) : TK G X a0 bn g kc zc L pc (.int x :: st) := fun H locs ls hs hW hS hl => lv_istore_n C.1 C.2.1 hd hi hl (by rw [N.1]; exact hn) hl' (fun ls' hl2 => k' H locs ls' hs hW hS hl2)
theorem tk_istore {x : Int32} {nL fr lo : Nat} {i : Nat} (C : tk_C G X cc own a0) (N : tx_n X = nL ∧ (tx_R X).frames = fr ∧ (tx_R X).locals = lo) (hd : decode cc pc = .ok (.istore i, 2)) (hn : i < nL) (hl' : (i, Value.int x) :: L.filter (fun q => !(q.1 == i) && !(q.1 + 1 == i && q.2.category == 2)) = L') (k' : TK G X a0 bn g kc zc L' (pc + 2) st) : TK G X a0 bn g kc zc L pc (.int x :: st) := fun H locs ls hs hW hS hl => lv_istore C.1 C.2.1 hd hl (by rw [N.1]; exact hn) hl' (fun ls' hl2 => k' H locs ls' hs hW hS hl2)
theorem tk_aload_n {k : Fin 4} {x : Nat} (C : tk_C G X cc own a0) (hd : decode cc pc = .ok (.aload_n k, 1)) (j : Nat) (hj : L[j]? = some ((k : Nat), .ref x)) (k : TK G X a0 bn g kc zc L (pc + 1) (.ref x :: st)) : TK G X a0 bn g kc zc L pc (st) := fun H locs ls hs hW hS hl => lv_aload_n C.1 C.2.1 hd rfl (lv_at hl j hj) (k H locs ls hs hW hS hl)
theorem tk_aload {i : Nat} {x : Nat} (C : tk_C G X cc own a0) (hd : decode cc pc = .ok (.aload i, 2)) (j : Nat) (hj : L[j]? = some (i, .ref x)) (k : TK G X a0 bn g kc zc L (pc + 2) (.ref x :: st)) : TK G X a0 bn g kc zc L pc (st) := fun H locs ls hs hW hS hl => lv_aload C.1 C.2.1 hd (lv_at hl j hj) (k H locs ls hs hW hS hl)
theorem tk_astore_n {x : Nat} {nL fr lo : Nat} {k : Fin 4} {i : Nat} (C : tk_C G X cc own a0) (N : tx_n X = nL ∧ (tx_R X).frames = fr ∧ (tx_R X).locals = lo) (hd : decode cc pc = .ok (.astore_n k, 1)) (hi : (k : Nat) = i) (hn : i < nL) (hl' : (i, Value.ref x) :: L.filter (fun q => !(q.1 == i) && !(q.1 + 1 == i && q.2.category == 2)) = L') (k' : TK G X a0 bn g kc zc L' (pc + 1) st) : TK G X a0 bn g kc zc L pc (.ref x :: st) := fun H locs ls hs hW hS hl => lv_astore_n C.1 C.2.1 hd hi hl (by rw [N.1]; exact hn) hl' (fun ls' hl2 => k' H locs ls' hs hW hS hl2)
theorem tk_astore {x : Nat} {nL fr lo : Nat} {i : Nat} (C : tk_C G X cc own a0) (N : tx_n X = nL ∧ (tx_R X).frames = fr ∧ (tx_R X).locals = lo) (hd : decode cc pc = .ok (.astore i, 2)) (hn : i < nL) (hl' : (i, Value.ref x) :: L.filter (fun q => !(q.1 == i) && !(q.1 + 1 == i && q.2.category == 2)) = L') (k' : TK G X a0 bn g kc zc L' (pc + 2) st) : TK G X a0 bn g kc zc L pc (.ref x :: st) := fun H locs ls hs hW hS hl => lv_astore C.1 C.2.1 hd hl (by rw [N.1]; exact hn) hl' (fun ls' hl2 => k' H locs ls' hs hW hS hl2)
theorem tk_iinc {i k nL fr lo : Nat} {n : Int} {x v : Int32} (C : tk_C G X cc own a0) (N : tx_n X = nL ∧ (tx_R X).frames = fr ∧ (tx_R X).locals = lo) (hd : decode cc pc = .ok (.iinc i n, 3)) (hk : L[k]? = some (i, .int x)) (hv : x + Int32.ofInt n = v) (hn : i < nL) (hl' : (i, Value.int v) :: L.filter (fun q => !(q.1 == i) && !(q.1 + 1 == i && q.2.category == 2)) = L') (k' : TK G X a0 bn g kc zc L' (pc + 3) st) : TK G X a0 bn g kc zc L pc st := fun H locs ls hs hW hS hl => lv_iinc C.1 C.2.1 hd hl hk hv (by rw [N.1]; exact hn) hl' (fun ls' hl2 => k' H locs ls' hs hW hS hl2)
theorem tk_dup {v : Value} (C : tk_C G X cc own a0) (hd : decode cc pc = .ok (.dup, 1)) (hv : v.category = 1) (k : TK G X a0 bn g kc zc L (pc + 1) (v :: v :: st)) : TK G X a0 bn g kc zc L pc (v :: st) := fun H locs ls hs hW hS hl => lv_dup C.1 C.2.1 hd hv (k H locs ls hs hW hS hl)
theorem tk_pop {v : Value} (C : tk_C G X cc own a0) (hd : decode cc pc = .ok (.pop, 1)) (hv : v.category = 1) (k : TK G X a0 bn g kc zc L (pc + 1) (st)) : TK G X a0 bn g kc zc L pc (v :: st) := fun H locs ls hs hW hS hl => lv_pop C.1 C.2.1 hd hv (k H locs ls hs hW hS hl)
theorem tk_if_ge {x : Int32} {off : Int} {tgt : Nat} (C : tk_C G X cc own a0) (hd : decode cc pc = .ok (.ifCond .ge off, 3)) (ht : (pc : Int) + off = (tgt : Int)) (kt : 0 ≤ x → TK G X a0 bn g kc zc L tgt st) (kf : ¬ 0 ≤ x → TK G X a0 bn g kc zc L (pc + 3) st) : TK G X a0 bn g kc zc L pc (.int x :: st) := fun H locs ls hs hW hS hl => lv_if_ge C.1 C.2.1 hd ht (fun c => kt c H locs ls hs hW hS hl) (fun c => kf c H locs ls hs hW hS hl)
theorem tk_icmp_ge {x y : Int32} {off : Int} {tgt : Nat} (C : tk_C G X cc own a0) (hd : decode cc pc = .ok (.if_icmp .ge off, 3)) (ht : (pc : Int) + off = (tgt : Int)) (kt : y ≤ x → TK G X a0 bn g kc zc L tgt st) (kf : ¬ y ≤ x → TK G X a0 bn g kc zc L (pc + 3) st) : TK G X a0 bn g kc zc L pc (.int y :: .int x :: st) := fun H locs ls hs hW hS hl => lv_icmp_ge C.1 C.2.1 hd ht (fun c => kt c H locs ls hs hW hS hl) (fun c => kf c H locs ls hs hW hS hl)
theorem tk_goto {off : Int} {tgt : Nat} (C : tk_C G X cc own a0) (hd : decode cc pc = .ok (.goto off, 3)) (ht : (pc : Int) + off = (tgt : Int)) (k : TK G X a0 bn g kc zc L tgt st) : TK G X a0 bn g kc zc L pc st := fun H locs ls hs hW hS hl => lv_goto C.1 C.2.1 hd ht (k H locs ls hs hW hS hl)
theorem tk_objInit {idx : Nat} {a : Nat} {nL fr lo : Nat} (C : tk_C G X cc own a0) (NN : (tx_n X = nL ∧ (tx_R X).frames = fr ∧ (tx_R X).locals = lo)) (hw : Cond.methodLink own idx objectInit ∈ lw_g) (hd : decode cc pc = .ok (.invokespecial idx, 3)) (h1 : 1 ≤ fr) (h2 : 12 ≤ lo) (k : TK G X a0 bn g kc zc L (pc + 3) []) : TK G X a0 bn g kc zc L pc [.ref a] := fun H locs ls hs hW hS hl => W.objInit C.1 C.2.1 C.2.2.2.1 (C.2.2.2.2.1 _ hw) (C.2.2.2.2.1 _ wd_12) (C.2.2.2.2.1 _ wd_13) rfl (by rw [C.2.2.1]; exact hl.1) rfl hd (by rw [NN.2.1]; exact h1) (by rw [NN.2.2]; exact h2) (k H locs ls hs hW hS hl)
theorem tk_new {index ci N : Nat} {CN : String} {T : u_T} {ty : Nat → FieldType} {fs : List Value} (C : tk_C G X cc own a0) (F : tw_F ci CN T N ty) (hcl : Cond.classLink own index CN ∈ lw_g) (hin : Cond.instantiable CN N ∈ lw_g) (hini : Cond.initialized CN ∈ lw_g) (hfs : ∀ j, j < N → defaultValue (ty j) = vp_V fs j) (h1 : kc + 1 ≤ (tx_R X).cells) (h2 : zc + N ≤ (tx_R X).slots) (hd : decode cc pc = .ok (.new index, 3)) (k : TK G X a0 (bn + 1) (upE g bn (.inr (ci, fs))) (kc + 1) (zc + N) L (pc + 3) (.ref (a0 + bn) :: st)) : TK G X a0 bn g kc zc L pc st := by
  intro H locs ls hs hW hS hl
  have hts := C.2.2.2.2.1
  have hK := C.2.2.2.2.2.1
  have hKn := hK.1 ci _ F.1
  refine W.newcK C.1 C.2.1 C.2.2.2.1 (hts _ hcl) (hts _ hin) (hts _ hini) rfl hd h1 h2 hKn.2.1 hs fun H1 kC hkC e1 z1 o1 => ?_
  refine k H1 locs ls (by omega) (blk_P hW hs (fun q hq => o1 q (by omega)) ⟨_, F.1, (u_born ty hts F.2.1 hKn hkC e1 F.2.2.1).to hfs⟩) ⟨by have := hS.1; omega, fun x g1 g2 => (o1 x (by have := hS.1; omega)).trans (hS.2.1 x g1 g2), hS.2.2⟩ hl
theorem tk_newa {atype : ArrayType} {ty : FieldType} {cy n' : Nat} {n : Int32} {e : vp_A} (C : tk_C G X cc own a0) (harr : Cond.arrayClass (newarray.typeOf atype) ∈ lw_g) (hty : newarray.typeOf atype = ty) (hcy : ∀ cA : ClassId, (tx_s X).vm.findClass ("[" ++ (newarray.typeOf atype).toString) = some cA → cA = tw_cy G cy) (he : vp_cell (tw_cy G cy) e = arrV (tw_cy G cy) n' (fun _ => defaultValue ty)) (hn : ¬ n < 0) (hN : n.toNatClampNeg = n') (hb : n' * componentBytes ty ≤ 536870912) (h1 : kc + 1 ≤ (tx_R X).cells) (h2 : zc + n' ≤ (tx_R X).slots) (hd : decode cc pc = .ok (.newarray atype, 2)) (k : TK G X a0 (bn + 1) (upE g bn (.inl (tw_cy G cy, e))) (kc + 1) (zc + n') L (pc + 2) (.ref (a0 + bn) :: st)) : TK G X a0 bn g kc zc L pc (.int n :: st) := by
  intro H locs ls hs hW hS hl
  subst hty
  refine va_newaK C.1 C.2.1 (C.2.2.2.2.1 _ harr) rfl hd rfl hn hN hb h1 h2 hs fun H1 cA e1 z1 o1 hAr hNm => ?_
  have hc := hcy cA hNm
  subst hc
  refine k H1 locs ls (by omega) (blk_P hW hs (fun q hq => o1 q (by omega)) ?_) ⟨by have := hS.1; omega, fun x g1 g2 => (o1 x (by have := hS.1; omega)).trans (hS.2.1 x g1 g2), hS.2.2⟩ hl
  show H1[a0 + bn]? = some (vp_cell _ _)
  rw [he]
  exact e1
theorem tk_anew {index cy n' : Nat} {n : Int32} {CN : String} (C : tk_C G X cc own a0) (hcl : Cond.classLink own index CN ∈ lw_g) (hao : va_AO CN (tx_s X)) (hcy : ∀ cA : ClassId, (tx_s X).vm.findClass ("[" ++ (FieldType.object CN).toString) = some cA → cA = tw_cy G cy) (hn : ¬ n < 0) (hN : n.toNatClampNeg = n') (hb : n' * 4 ≤ 536870912) (h1 : kc + 1 ≤ (tx_R X).cells) (h2 : zc + n' ≤ (tx_R X).slots) (hd : decode cc pc = .ok (.anewarray index, 3)) (k : TK G X a0 (bn + 1) (upE g bn (.inl (tw_cy G cy, n', .inr (.inr (.inr (.inr (fun _ => none))))))) (kc + 1) (zc + n') L (pc + 3) (.ref (a0 + bn) :: st)) : TK G X a0 bn g kc zc L pc (.int n :: st) := by
  intro H locs ls hs hW hS hl
  subst hN
  refine W.anew C.1 C.2.1 C.2.2.2.1 (C.2.2.2.2.1 _ hcl) (va_AO.use hao) rfl hd rfl hn hb h1 h2 fun cA kA comp f1 f2 f3 f4 => ?_
  have hc := hcy cA f1
  subst hc
  have o1 : ∀ q : Nat, q < H.size → (H.push ({ cls := tw_cy G cy, slots := Array.replicate n.toNatClampNeg .null } : Cell))[q]? = H[q]? := fun q hq => by rw [Array.getElem?_push, if_neg (Nat.ne_of_lt hq)]
  rw [hs]
  refine k _ locs ls (by rw [Array.size_push, hs]; rfl) (blk_P hW hs o1 ?_) ⟨by rw [Array.size_push]; have := hS.1; omega, fun x g1 g2 => (o1 x (by have := hS.1; omega)).trans (hS.2.1 x g1 g2), hS.2.2⟩ hl
  show (H.push _)[a0 + bn]? = some (vp_cell _ _)
  rw [← hs, Array.getElem?_push_size, vp_cell_q, ← arrV_new]
  rfl
/-- a field of the new object -/
theorem tk_put {index ci N p k : Nat} {CN : String} {T : u_T} {ty : Nat → FieldType} {fs : List Value} {v : Value} (C : tk_C G X cc CN a0) (F : tw_F ci CN T N ty) (hp : p < bn) (hg : g p = .inr (ci, fs)) (hk : k < N) (hkl : k < fs.length) (hdc : (T k).1 = CN) (hw : Cond.fieldLink CN index (T k).1 (T k).2.1 (T k).2.2.1 ∈ lw_g) (hn : narrow (ty k) v = v) (hf : fits (ty k) v = true) (hd : decode cc pc = .ok (.putfield index, 3)) (kk : TK G X a0 bn (upE g p (.inr (ci, fs.set k v))) kc zc L (pc + 3) st) : TK G X a0 bn g kc zc L pc (v :: .ref (a0 + p) :: st) := by
  intro H locs ls hs hW hS hl
  have hts := C.2.2.2.2.1
  have hq : (blk a0 g bn)[p]? = some (a0 + p, .inr (ci, fs)) := by rw [blk_get hp, hg]
  have hDk : va_D (tx_A X) (blk a0 g bn) := blk_D C.2.2.2.2.2.2.1
  have hap := va_apart (own := CN) hts F.2.1 ty F.2.2.1 F.2.2.2 C.2.2.2.2.2.1 F.1
  obtain ⟨r, h1, cell, q1, q2, q3, q4⟩ := hW p _ hq
  have hr : r = (CN, T, N) := Option.some.inj (h1.symm.trans F.1)
  subst hr
  obtain ⟨hSl, hfc, kC, hkC, hkind⟩ := C.2.2.2.2.2.1.1 ci _ F.1
  obtain ⟨cf, kf, fi, f, hi, hsl⟩ := hSl k hk
  have hlay := hts _ (F.2.1 _ (u_in_lay hk))
  unfold u_lay at hlay
  have hst := (u_facts hfc hkC (u_lays hts F.2.1 hk) hi).1
  by_cases hfin : (T k).2.2.2 = true
  · rw [if_pos hfin] at hlay
    have hcf : (tx_m X).cls = cf := by
      obtain ⟨_, _, c', _, _, _, -, -, hf', -, -, -, hown2, -⟩ := Cond.laysFinal_spec hlay
      have e1 : c' = cf := by have := hi.symm.trans hf'; simp at this; exact this.1.symm
      rw [hdc] at hown2
      rw [← e1]; exact Option.some.inj (C.2.2.2.1.symm.trans hown2)
    have h6 := u_fits hfc hkC hkind (Or.inr hlay) hi (F.2.2.1 k hk) hn hf
    refine W.putFinK C.1 C.2.1 C.2.2.2.1 (hts _ hw) hi hst hcf C.2.2.2.2.2.2.2.2.1 (by rw [q2]; exact h6) q1 q3 (by rw [hsl]; exact k2_hasslot (q4 k hk)) rfl rfl hd fun H' e1 e2 e3 => ?_
    rw [hsl] at e1 ⊢
    have hP1 := hW.set (e := .inr (ci, fs.set k v)) (H1 := H') hDk hq ⟨_, F.1, t_OB.to (V := updV (vp_V fs) k v) ⟨_, e1, q2, q3, t_set q4 hap hk v⟩ (fun j _ => vp_updV_set hkl v j)⟩ e3
    rw [blk_set hp] at hP1
    exact kk H' _ ls (e2.trans hs) hP1 (hS.put e2 e3 (C.2.2.2.2.2.2.1 _ (Nat.le_add_right _ _))) hl
  · rw [if_neg hfin] at hlay
    have h6 := u_store hfc hkC hkind hlay hi (F.2.2.1 k hk) hn hf
    refine W.putK C.1 C.2.1 (f := f) ⟨C.2.2.2.1, hts _ hw, ⟨_, _, _, hi⟩, hst⟩ (by rw [q2]; exact h6) q1 q3 (by rw [hsl]; exact k2_hasslot (q4 k hk)) rfl rfl hd fun H' e1 e2 e3 => ?_
    rw [hsl] at e1 ⊢
    have hP1 := hW.set (e := .inr (ci, fs.set k v)) (H1 := H') hDk hq ⟨_, F.1, t_OB.to (V := updV (vp_V fs) k v) ⟨_, e1, q2, q3, t_set q4 hap hk v⟩ (fun j _ => vp_updV_set hkl v j)⟩ e3
    rw [blk_set hp] at hP1
    exact kk H' _ ls (e2.trans hs) hP1 (hS.put e2 e3 (C.2.2.2.2.2.2.1 _ (Nat.le_add_right _ _))) hl
theorem tk_get {index ci N p k : Nat} {CN : String} {T : u_T} {ty : Nat → FieldType} {fs : List Value} {v : Value} (C : tk_C G X cc own a0) (F : tw_F ci CN T N ty) (hp : p < bn) (hg : g p = .inr (ci, fs)) (hk : k < N) (hw : Cond.fieldLink own index (T k).1 (T k).2.1 (T k).2.2.1 ∈ lw_g) (hv : fs[k]? = some v) (hd : decode cc pc = .ok (.getfield index, 3)) (kk : TK G X a0 bn g kc zc L (pc + 3) (v :: st)) : TK G X a0 bn g kc zc L pc (.ref (a0 + p) :: st) := by
  intro H locs ls hs hW hS hl
  exact va_get C.1 C.2.1 C.2.2.2.2.1 F.2.1 C.2.2.2.1 C.2.2.2.2.2.1 hW p (by rw [blk_get hp, hg]) F.1 k hk (C.2.2.2.2.1 _ hw) (fun _ h => h) hv hd (kk H locs ls hs hW hS hl)
/-- a reference into an array of references -/
theorem tk_aast {t0 ci p q N : Nat} {CN : String} {T : u_T} {ty : Nat → FieldType} {cA : ClassId} {n : Nat} {vs : List Value} {f : Nat → Option Nat} {i : Int32} (C : tk_C G X cc own a0) (F : tw_F ci CN T N ty) (hp : p < bn) (hg : g p = .inl (cA, n, .inr (.inr (.inr (.inr f))))) (ht : (tw_tys G)[t0]? = some (cA, .object CN)) (hq : q < bn) (hgq : g q = .inr (ci, vs)) (hin : vp_in i n) (hd : decode cc pc = .ok (.aastore, 1)) (kk : TK G X a0 bn (upE g p (.inl (cA, n, .inr (.inr (.inr (.inr (va_up f i.toNatClampNeg (some (a0 + q))))))))) kc zc L (pc + 1) st) : TK G X a0 bn g kc zc L pc (.ref (a0 + q) :: .int i :: .ref (a0 + p) :: st) := by
  intro H locs ls hs hW hS hl
  have hK := C.2.2.2.2.2.1
  have ha : (blk a0 g bn)[p]? = some (a0 + p, .inl (cA, n, .inr (.inr (.inr (.inr f))))) := by rw [blk_get hp, hg]
  have hv : (blk a0 g bn)[q]? = some (a0 + q, .inr (ci, vs)) := by rw [blk_get hq, hgq]
  have hlt : i.toNatClampNeg < n := Nat.not_le.mp fun z => hin (Or.inr z)
  have h0 : ¬ i < 0 := fun z => hin (Or.inl z)
  obtain ⟨r', hr', cellV, g1, g2, g3, -⟩ := hW q _ hv
  have hcls := (hK.1 ci _ F.1).2
  obtain ⟨kA, comp, k1, k2, k3, -⟩ := (hK.2 t0 _ ht).2
  have hcomp : comp = (tw_D G).1 ci := Option.some.inj (k3.symm.trans hcls.1)
  subst hcomp
  obtain ⟨kC, hkC, -⟩ := hcls.2
  refine W.aast C.1 C.2.1 (hW p _ ha) (fun q h => by cases h) (fun h => by cases h) k1 k2 rfl hkC ⟨h0, by show _ < (arrV _ _ _).slots.size; rw [arrV_size]; exact hlt⟩ g1 (fun q h => by rw [g3] at h; cases h) (by rw [g2]; exact hkC) (by rw [g2]; exact va_assign hcls) rfl rfl hd fun H1 e z oq => ?_
  have hP1 := hW.set (blk_D C.2.2.2.2.2.2.1) ha (e := .inl (cA, n, .inr (.inr (.inr (.inr (va_up f i.toNatClampNeg (some (a0 + q)))))))) (by
    show H1[a0 + p]? = some (vp_cell _ _)
    rw [e, vp_cell_q, vp_cell_q, arrV_store]
    congr 2
    funext x
    by_cases hx : x = i.toNatClampNeg
    · subst hx
      simp [updV, va_up, va_rf]
    · simp [updV, va_up, hx]) oq
  rw [blk_set hp] at hP1
  exact kk H1 _ ls (z.trans hs) hP1 (hS.put z oq (C.2.2.2.2.2.2.1 _ (Nat.le_add_right _ _))) hl
/-- a constructor's contract -/
def tk_B (G : tw_G) (a0 n : Nat) (g : Nat → va_E) (U : State) : Prop := U.heap.size = a0 + n ∧ va_P (tw_D G) vwCl (blk a0 g n) U.heap ∧ va_K (tw_D G) vwCl (tw_tys G) U ∧ tk_V U
def tk_Qc (G : tw_G) (a0 n : Nat) (g : Nat → va_E) : Array Value → State → Outcome → State → Prop := fun _ st oc t => (oc = .returned none ∧ t.heap.size = a0 + n ∧ va_P (tw_D G) vwCl (blk a0 g n) t.heap) ∧ va_F (fun q => a0 ≤ q) st t
def tk_M (G : tw_G) (y : MethodName) (bytes : ByteArray) (maxL fr lo mc ms : Nat) (av : List Value) (a0 n n' : Nat) (g g' : Nat → va_E) : Prop := Met (tw_l G) y (.code y bytes maxL none :: lw_g) ({ frames := fr, cells := mc, slots := ms, locals := lo }) (va_Pc av (tk_B G a0 n g)) (tk_Qc G a0 n' g') mc ms (fun q => a0 ≤ q)
def tk_N (X : tw_X) (nL fr lo mc ms : Nat) : Prop := (tx_n X = nL ∧ (tx_R X).frames = fr ∧ (tx_R X).locals = lo) ∧ (tx_R X).cells = mc ∧ (tx_R X).slots = ms
def tk_Q (G : tw_G) (X : tw_X) (a0 n mc ms : Nat) (g : Nat → va_E) : Prop := (tx_t X).sig.returnType = none ∧ tx_A X = (fun q => a0 ≤ q) ∧ tx_Q X = MQ (tx_b X) (tk_Qc G a0 n g) (tx_a X) (tx_s X) mc ms (fun q => a0 ≤ q)
theorem tk_return {mc ms : Nat} (C : tk_C G X cc own a0) (Q : tk_Q G X a0 bn mc ms g) (hd : decode cc pc = .ok (.return_, 1)) (h1 : kc ≤ mc) (h2 : zc ≤ ms) : TK G X a0 bn g kc zc L pc [] := by
  intro H locs ls hs hW hS hl
  obtain ⟨hr, hA, hQ⟩ := Q
  rw [hA] at hS
  rw [hQ]
  refine W.widen h1 h2 ?_
  exact W.vret C.1 C.2.1 hr (fun t ht hW' => ⟨⟨rfl, by rw [ht]; exact hs, by rw [ht]; exact hW⟩, hS.F ht⟩) hS.2.2 hd C.2.2.2.2.2.2.2.1
theorem tk_M.of {G : tw_G} {y : MethodName} {bytes : ByteArray} {maxL fr lo mc ms : Nat} {av : List Value} {a0 n n' : Nat} {g g' : Nat → va_E} {L : List (Nat × Value)} (hy : plainName y.cls = true) (hnm : y.name = "<init>") (hlen : (lg_sl av).length ≤ maxL) (hL : lv_args 0 av = L) (body : ∀ X : tw_X, tk_C G X bytes y.cls a0 → tk_N X maxL fr lo mc ms → tk_Q G X a0 n' mc ms g' → TK G X a0 n g 0 0 L 0 []) : tk_M G y bytes maxL fr lo mc ms av a0 n n' g g' := by
  refine Met.ofW (cc := bytes) (maxL := maxL) (ret := none) hy rfl ?_
  intro p e s m args below meth c s₁ B hml hv
  obtain ⟨rfl, hsz, hP, hK, hV⟩ := hv
  have hts := atoms_spec (ws := Cond.code y bytes maxL none :: lw_g) B.pre
  have hown : s.vm.findClass y.cls = some m.cls := findClass_of_methodNamed B.named
  have hl := lv_entry av (n := maxL) hlen
  rw [hL] at hl
  rw [lg_entry_eq]
  exact body (p, e, _, s, m, av.toArray, below, meth, c, maxL, (fun q => a0 ≤ q), mc, ms, _) ⟨B.exec, B.bytes, hml, hown, fun w hw => hts w (List.mem_cons_of_mem _ hw), hK, fun q h => h, B.notSynchronized, (name_of_methodNamed B.named B.method).1.trans hnm, hV⟩ ⟨⟨rfl, rfl, rfl⟩, rfl, rfl⟩ ⟨B.returns, rfl, rfl⟩ s.heap [] _ hsz hP va_S.rf hl
/-- a constructor called -/
theorem tk_after {n' mc ms : Nat} {g' : Nat → va_E} {H : Heap} {locs : List Loc} {ls : Array Slot} {a : Array Value} {rest : List Value} (C : tk_C G X cc own a0) (hS : va_S (tx_A X) (tx_s X).heap H locs) (hl : lv_has ls (tx_n X) L)
    (hr : va_Run (tx_p X) (tw_l G) (tx_e X) (tx_R X) (tx_s X) (tx_m X) (tx_a X) (tx_b X) (tx_t X) (tx_c X) H locs kc zc mc ms (F0 (tx_m X) pc ls st) rest (tk_Qc G a0 n' g' a) (fun q => a0 ≤ q))
    (kk : TK G X a0 n' g' (kc + mc) (zc + ms) L (pc + 3) rest) : W (tx_p X) (tw_l G) (tx_e X) (tx_R X) (tx_s X) (tx_m X) (tx_a X) (tx_b X) (tx_t X) (tx_c X) H locs kc zc (tx_Q X) (F0 (tx_m X) pc ls st) := by
  intro T hT Xs
  obtain ⟨v, st₀, t, T', L1, h0, X', hL1, e1, e2, ⟨⟨hv, hsz, hPt⟩, hz, hk⟩, stp⟩ := hr T hT Xs
  cases hv
  rw [h0] at hz hk
  obtain ⟨t2, a1, b1⟩ := kk T'.heap (locs ++ L1) ls (by rw [e1]; exact hsz) (by rw [e1]; exact hPt)
    ⟨Nat.le_trans hS.1 (by rw [e1]; exact hz), fun q h1 h2 => by
      rw [e1, hk q (Nat.lt_of_lt_of_le h1 hS.1) (fun z => h2 (C.2.2.2.2.2.2.1 q z))]
      exact hS.2.1 q h1 h2, fun q hq => by
      rcases List.mem_append.mp hq with h | h
      · exact hS.2.2 q h
      · exact C.2.2.2.2.2.2.1 _ (hL1 q h)⟩ hl T' rfl X'
  exact ⟨t2, stp t2 a1, b1⟩
theorem tk_words (C : tk_C G X cc own a0) {y : MethodName} {bytes : ByteArray} {maxL : Nat} {ret : Option FieldType} (hc : Cond.code y bytes maxL ret ∈ lw_g) : ∀ w ∈ (Cond.code y bytes maxL ret :: lw_g), ∀ (a' : Array Value) (U : State), (tx_s X).WarmedH U.vm → w.before a' U = true := by
  refine pay_in (big := lw_g) C.2.2.2.2.1 (fun w hw => ?_)
  have hm : w ∈ lw_g := by
    rcases List.mem_cons.mp hw with h | h
    · rw [h]; exact hc
    · exact h
  exact ⟨hm, good_of_word (wd_good w hm)⟩
theorem tk_V_warm {s U : State} (h : s.WarmedH U.vm) (g : tk_V s) : tk_V U := ⟨tw_NW_warm h g.1, va_AO.moved h.alike g.2.1, va_AO.moved h.alike g.2.2⟩
theorem tk_pre {U : State} {H : Heap} {n : Nat} (C : tk_C G X cc own a0) (hs : H.size = a0 + n) (hW : va_P (tw_D G) vwCl (blk a0 g n) H) (hU : U.heap = H) (hWh : (tx_s X).WarmedH U.vm) : tk_B G a0 n g U := ⟨by rw [hU]; exact hs, by rw [hU]; exact hW, va_K.moved hWh.alike C.2.2.2.2.2.1, tk_V_warm hWh C.2.2.2.2.2.2.2.2.2⟩
theorem tk_blind {av : List Value} {n : Nat} : FrameBlind (va_Pc av (tk_B G a0 n g)) := by
  intro a U f mk h
  obtain ⟨q0, q1, q2, q3, q4, q5, q6⟩ := h
  have hal : U.vm.Alike (U.calling f mk a).vm := Vm.Alike.refl U.vm
  exact ⟨q0, q1, q2, va_K.moved (u := U) (U := U.calling f mk a) hal q3, tw_NW_same (s := U) (U := U.calling f mk a) rfl q4, va_AO.moved (u := U) (U := U.calling f mk a) hal q5, va_AO.moved (u := U) (U := U.calling f mk a) hal q6⟩
def tk_y (y : MethodName) (bytes : ByteArray) (maxL n : Nat) : Prop := Cond.code y bytes maxL none ∈ lw_g ∧ Cond.initialized y.cls ∈ lw_g ∧ Cond.instanceMethod y ∈ lw_g ∧ y.name = "<init>" ∧ (y.cls ≠ "java/lang/invoke/MethodHandle" ∧ y.cls ≠ "java/lang/invoke/VarHandle" ∧ (parseMethodDescriptor y.desc).map (fun d => d.parameters.length) = some n)
theorem tk_call {y : MethodName} {bytes : ByteArray} {maxL fr lo mc ms n n' idx b fr0 lo0 mc0 ms0 nL : Nat} {g' : Nat → va_E} {As rest : List Value} (C : tk_C G X cc own a0) (NN : tk_N X nL fr0 lo0 mc0 ms0) (hM : tk_M G y bytes maxL fr lo mc ms (.ref b :: As) a0 bn n' g g') (hm : tk_y y bytes maxL n) (hw : Cond.methodLink own idx y ∈ lw_g) (hAs : As.length = n) (hR : fr + 1 ≤ fr0 ∧ 8 + (maxL + 11) + lo ≤ lo0) (hmc : kc + mc ≤ mc0 ∧ zc + ms ≤ ms0) (hst : st = As.reverse ++ .ref b :: rest) (hrm : (rest.map fun v => v.category).sum ≤ 8) (hd : decode cc pc = .ok (.invokespecial idx, 3)) (kk : TK G X a0 n' g' (kc + mc) (zc + ms) L (pc + 3) rest) : TK G X a0 bn g kc zc L pc st := by
  intro H locs ls hs hW hS hl
  have hts := C.2.2.2.2.1
  have hcw : CallB (tx_R X) (tx_s X) (tx_a X) own idx y bytes maxL none (Cond.code y bytes maxL none :: lw_g) ({ frames := fr, cells := mc, slots := ms, locals := lo }) mc ms n ∧ y.name = "<init>" ∧ (Cond.instanceMethod y).before (tx_a X) (tx_s X) = true :=
    ⟨⟨rfl, rfl, by rw [NN.1.2.1]; exact hR.1, by rw [NN.1.2.2]; exact hR.2, tk_words C hm.1, List.mem_cons_self, hts _ hm.1, hts _ hm.2.1, ⟨hm.2.2.2.2.1, hm.2.2.2.2.2.1⟩, fun sig h => by
      have h2 := hm.2.2.2.2.2.2
      rw [h] at h2
      exact (Option.some.inj h2).symm, hts _ hw⟩, hm.2.2.2.1, hts _ hm.2.2.1⟩
  have hp : PreS (tx_s X) H (va_Pc (.ref b :: As) (tk_B G a0 bn g)) (.ref b :: As) := ⟨tk_blind, fun U hU hWm => ⟨rfl, tk_pre C hs hW hU hWm⟩⟩
  exact tk_after C hS hl (va_runI (n := n) ⟨C.1, C.2.1, C.2.2.1, C.2.2.2.1, hts⟩ hM hcw hp rfl hAs (hl.1) hst (lv_room hrm) hd ⟨by rw [NN.2.1]; exact hmc.1, by rw [NN.2.2]; exact hmc.2⟩) kk
theorem tk_callN {y : MethodName} {bytes : ByteArray} {host : String} {maxL fr lo mc ms n n' idx b fr0 lo0 mc0 ms0 nL : Nat} {g' : Nat → va_E} {As rest : List Value} (C : tk_C G X cc own a0) (NN : tk_N X nL fr0 lo0 mc0 ms0) (hM : tk_M G y bytes maxL fr lo mc ms (.ref b :: As) a0 bn n' g g') (hm : tk_y y bytes maxL n) (hw : va_Nw (.methodLinkNest own idx y host) (tx_s X)) (hAs : As.length = n) (hR : fr + 1 ≤ fr0 ∧ 8 + (maxL + 11) + lo ≤ lo0) (hmc : kc + mc ≤ mc0 ∧ zc + ms ≤ ms0) (hst : st = As.reverse ++ .ref b :: rest) (hrm : (rest.map fun v => v.category).sum ≤ 8) (hd : decode cc pc = .ok (.invokespecial idx, 3)) (kk : TK G X a0 n' g' (kc + mc) (zc + ms) L (pc + 3) rest) : TK G X a0 bn g kc zc L pc st := by
  intro H locs ls hs hW hS hl
  have hts := C.2.2.2.2.1
  have hp : PreS (tx_s X) H (va_Pc (.ref b :: As) (tk_B G a0 bn g)) (.ref b :: As) := ⟨tk_blind, fun U hU hWm => ⟨rfl, tk_pre C hs hW hU hWm⟩⟩
  have hG : GoodIn lw_g (Cond.code y bytes maxL none :: lw_g) := fun w hw => by
    have hm2 : w ∈ lw_g := by
      rcases List.mem_cons.mp hw with h | h
      · rw [h]; exact hm.1
      · exact h
    exact ⟨hm2, good_of_word (wd_good w hm2)⟩
  exact tk_after C hS hl (va_runIN (n := n) ⟨C.1, C.2.1, C.2.2.1, C.2.2.2.1, hts⟩ hM ⟨va_cnB n hts hG rfl rfl rfl hw (hts _ hm.2.1) hm.2.2.2.2 ⟨by rw [NN.1.2.1]; exact hR.1, by rw [NN.1.2.2]; exact hR.2⟩, hm.2.2.2.1, hts _ hm.2.2.1⟩ hp rfl hAs (hl.1) hst (lv_room hrm) hd ⟨by rw [NN.2.1]; exact hmc.1, by rw [NN.2.2]; exact hmc.2⟩) kk
end BK0
