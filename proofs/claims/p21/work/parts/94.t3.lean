/-! the law: two objects side by side, and an array -/
def T3 (G GM : tw_G) (X : tw_X) (Sc Sm : tw_S) (wl : va_W) (L : List (Nat × Value)) (pc : Nat) (st : List Value) : Prop := ∀ (H : Heap) (locs : List Loc) (ls : Array Slot), tw_W G Sc H → tw_W GM Sm H → va_P (tw_D G) vwCl wl H → va_S (tx_A X) (tx_s X).heap H locs → lv_has ls (tx_n X) L → tx_W G X H locs pc ls st
theorem tw_W_kept {G : tw_G} {S : tw_S} {H H1 : Heap} (h : tw_W G S H) (hq : ∀ q, q ∈ tw_LA G → q < H.size → H1[q]? = H[q]?) : tw_W G S H1 := by
  obtain ⟨h1, f, h2, h3⟩ := h
  refine ⟨h1, f, h2.kept (fun k q hk => ?_), h3⟩
  obtain ⟨a, ha, rfl⟩ := List.mem_map.mp (List.mem_of_getElem? hk)
  exact hq a ha (h2 k _ hk).lt
theorem tw_W_lt {G : tw_G} {S : tw_S} {H : Heap} (h : tw_W G S H) {q : Nat} (hq : q ∈ tw_LA G) : q < H.size := by
  obtain ⟨h1, f, h2, h3⟩ := h
  obtain ⟨k, hk⟩ := List.getElem?_of_mem (show ((q, f q) : Nat × va_E) ∈ va_pl (tw_LA G) f from List.mem_map.mpr ⟨q, hq, rfl⟩)
  exact (h2 k _ hk).lt
/-- the addresses of an array of the law's own -/
def AW (G GM : tw_G) (W : va_W) : Prop := ∀ (k : Nat) (q : Nat × va_E), W[k]? = some q → q.1 ∉ tw_LA G ∧ q.1 ∉ tw_LA GM
theorem AW_0 (G GM : tw_G) : AW G GM [] := fun k q h => by cases h
/-- behind the making of an array of 64 ints -/
def txN (X : tw_X) : tw_X := (tx_p X, tx_e X, tx_R X, tx_s X, tx_m X, tx_a X, tx_b X, tx_t X, tx_c X, tx_n X, tx_A X, tx_k X + 1, tx_z X + 64, tx_Q X)
theorem txN_C {G : tw_G} {X : tw_X} {cc : ByteArray} {own : String} (C : tw_C G X cc own) : tw_C G (txN X) cc own := C
section T3S
variable {G GM : tw_G} {X : tw_X} {Sc Sm : tw_S} {wl : va_W} {L L' : List (Nat × Value)} {pc : Nat} {st : List Value} {cc : ByteArray} {own : String}
theorem T3.c {L : List (Nat × Value)} (hs : ∀ q ∈ L', q ∈ L) (k : T3 G GM X Sc Sm wl L' pc st) : T3 G GM X Sc Sm wl L pc st := fun H locs ls h1 h2 h3 hS hl => k H locs ls h1 h2 h3 hS ⟨hl.1, hl.2.1, fun q hq => hl.2.2 q (hs q hq)⟩
theorem T3.ti {x y : Int32} (e : x = y) (k : T3 G GM X Sc Sm wl L pc (.int y :: st)) : T3 G GM X Sc Sm wl L pc (.int x :: st) := e ▸ k
theorem T3.wf (k : tw_wf G Sc → tw_wf GM Sm → T3 G GM X Sc Sm wl L pc st) : T3 G GM X Sc Sm wl L pc st := fun H locs ls h1 h2 h3 hS hl => k h1.1 h2.1 H locs ls h1 h2 h3 hS hl
theorem t3_iconst {n : Int} {v : Int32} (C : tw_C G X cc own) (hd : decode cc pc = .ok (.iconst n, 1)) (hv : Int32.ofInt n = v) (k : T3 G GM X Sc Sm wl L (pc + 1) (.int v :: st)) : T3 G GM X Sc Sm wl L pc (st) := fun H locs ls hW hW2 hP hS hl => lv_iconst C.1 C.2.1 hd hv (k H locs ls hW hW2 hP hS hl)
theorem t3_bipush {n : Int} {v : Int32} (C : tw_C G X cc own) (hd : decode cc pc = .ok (.bipush n, 2)) (hv : (Int8.ofInt n).toInt32 = v) (k : T3 G GM X Sc Sm wl L (pc + 2) (.int v :: st)) : T3 G GM X Sc Sm wl L pc (st) := fun H locs ls hW hW2 hP hS hl => lv_bipush C.1 C.2.1 hd hv (k H locs ls hW hW2 hP hS hl)
theorem t3_sipush {n : Int} {v : Int32} (C : tw_C G X cc own) (hd : decode cc pc = .ok (.sipush n, 3)) (hv : (Int16.ofInt n).toInt32 = v) (k : T3 G GM X Sc Sm wl L (pc + 3) (.int v :: st)) : T3 G GM X Sc Sm wl L pc (st) := fun H locs ls hW hW2 hP hS hl => lv_sipush C.1 C.2.1 hd hv (k H locs ls hW hW2 hP hS hl)
theorem t3_ldc2 {index : Nat} {v w : Int64} (C : tw_C G X cc own) (hd : decode cc pc = .ok (.ldc2_w index, 3)) (hc : Cond.constantLong own index v ∈ lw_g) (hv : v = w) (k : T3 G GM X Sc Sm wl L (pc + 3) (.long w :: st)) : T3 G GM X Sc Sm wl L pc (st) := fun H locs ls hW hW2 hP hS hl => lv_ldc2 C.1 C.2.1 C.2.2.2.1 (C.2.2.2.2.1 _ (hv ▸ hc)) hd (k H locs ls hW hW2 hP hS hl)
theorem t3_iload_n {k : Fin 4} {x : Int32} (C : tw_C G X cc own) (hd : decode cc pc = .ok (.iload_n k, 1)) (j : Nat) (hj : L[j]? = some ((k : Nat), .int x)) (k : T3 G GM X Sc Sm wl L (pc + 1) (.int x :: st)) : T3 G GM X Sc Sm wl L pc (st) := fun H locs ls hW hW2 hP hS hl => lv_iload_n C.1 C.2.1 hd rfl (lv_at hl j hj) (k H locs ls hW hW2 hP hS hl)
theorem t3_iload {i : Nat} {x : Int32} (C : tw_C G X cc own) (hd : decode cc pc = .ok (.iload i, 2)) (j : Nat) (hj : L[j]? = some (i, .int x)) (k : T3 G GM X Sc Sm wl L (pc + 2) (.int x :: st)) : T3 G GM X Sc Sm wl L pc (st) := fun H locs ls hW hW2 hP hS hl => lv_iload C.1 C.2.1 hd (lv_at hl j hj) (k H locs ls hW hW2 hP hS hl)
theorem t3_istore_n {x : Int32} {nL fr lo : Nat} {k : Fin 4} {i : Nat} (C : tw_C G X cc own) (N : tw_N X nL fr lo) (hd : decode cc pc = .ok (.istore_n k, 1)) (hi : (k : Nat) = i) (hn : i < nL) (hl' : (i, Value.int x) :: L.filter (fun q => !(q.1 == i) && !(q.1 + 1 == i && q.2.category == 2)) = L') (k' : T3 G GM X Sc Sm wl L' (pc + 1) st) : T3 G GM X Sc Sm wl L pc (.int x :: st) := fun H locs ls hW hW2 hP hS hl => lv_istore_n C.1 C.2.1 hd hi hl (by rw [N.1]; exact hn) hl' (fun ls' hl2 => k' H locs ls' hW hW2 hP hS hl2)
theorem t3_istore {x : Int32} {nL fr lo : Nat} {i : Nat} (C : tw_C G X cc own) (N : tw_N X nL fr lo) (hd : decode cc pc = .ok (.istore i, 2)) (hn : i < nL) (hl' : (i, Value.int x) :: L.filter (fun q => !(q.1 == i) && !(q.1 + 1 == i && q.2.category == 2)) = L') (k' : T3 G GM X Sc Sm wl L' (pc + 2) st) : T3 G GM X Sc Sm wl L pc (.int x :: st) := fun H locs ls hW hW2 hP hS hl => lv_istore C.1 C.2.1 hd hl (by rw [N.1]; exact hn) hl' (fun ls' hl2 => k' H locs ls' hW hW2 hP hS hl2)
theorem t3_aload_n {k : Fin 4} {x : Nat} (C : tw_C G X cc own) (hd : decode cc pc = .ok (.aload_n k, 1)) (j : Nat) (hj : L[j]? = some ((k : Nat), .ref x)) (k : T3 G GM X Sc Sm wl L (pc + 1) (.ref x :: st)) : T3 G GM X Sc Sm wl L pc (st) := fun H locs ls hW hW2 hP hS hl => lv_aload_n C.1 C.2.1 hd rfl (lv_at hl j hj) (k H locs ls hW hW2 hP hS hl)
theorem t3_aload {i : Nat} {x : Nat} (C : tw_C G X cc own) (hd : decode cc pc = .ok (.aload i, 2)) (j : Nat) (hj : L[j]? = some (i, .ref x)) (k : T3 G GM X Sc Sm wl L (pc + 2) (.ref x :: st)) : T3 G GM X Sc Sm wl L pc (st) := fun H locs ls hW hW2 hP hS hl => lv_aload C.1 C.2.1 hd (lv_at hl j hj) (k H locs ls hW hW2 hP hS hl)
theorem t3_astore_n {x : Nat} {nL fr lo : Nat} {k : Fin 4} {i : Nat} (C : tw_C G X cc own) (N : tw_N X nL fr lo) (hd : decode cc pc = .ok (.astore_n k, 1)) (hi : (k : Nat) = i) (hn : i < nL) (hl' : (i, Value.ref x) :: L.filter (fun q => !(q.1 == i) && !(q.1 + 1 == i && q.2.category == 2)) = L') (k' : T3 G GM X Sc Sm wl L' (pc + 1) st) : T3 G GM X Sc Sm wl L pc (.ref x :: st) := fun H locs ls hW hW2 hP hS hl => lv_astore_n C.1 C.2.1 hd hi hl (by rw [N.1]; exact hn) hl' (fun ls' hl2 => k' H locs ls' hW hW2 hP hS hl2)
theorem t3_astore {x : Nat} {nL fr lo : Nat} {i : Nat} (C : tw_C G X cc own) (N : tw_N X nL fr lo) (hd : decode cc pc = .ok (.astore i, 2)) (hn : i < nL) (hl' : (i, Value.ref x) :: L.filter (fun q => !(q.1 == i) && !(q.1 + 1 == i && q.2.category == 2)) = L') (k' : T3 G GM X Sc Sm wl L' (pc + 2) st) : T3 G GM X Sc Sm wl L pc (.ref x :: st) := fun H locs ls hW hW2 hP hS hl => lv_astore C.1 C.2.1 hd hl (by rw [N.1]; exact hn) hl' (fun ls' hl2 => k' H locs ls' hW hW2 hP hS hl2)
theorem t3_iinc {i k nL fr lo : Nat} {n : Int} {x v : Int32} (C : tw_C G X cc own) (N : tw_N X nL fr lo) (hd : decode cc pc = .ok (.iinc i n, 3)) (hk : L[k]? = some (i, .int x)) (hv : x + Int32.ofInt n = v) (hn : i < nL) (hl' : (i, Value.int v) :: L.filter (fun q => !(q.1 == i) && !(q.1 + 1 == i && q.2.category == 2)) = L') (k' : T3 G GM X Sc Sm wl L' (pc + 3) st) : T3 G GM X Sc Sm wl L pc st := fun H locs ls hW hW2 hP hS hl => lv_iinc C.1 C.2.1 hd hl hk hv (by rw [N.1]; exact hn) hl' (fun ls' hl2 => k' H locs ls' hW hW2 hP hS hl2)
theorem t3_iadd {x y v : Int32} (C : tw_C G X cc own) (hd : decode cc pc = .ok (.iadd, 1)) (hv : x + y = v) (k : T3 G GM X Sc Sm wl L (pc + 1) (.int v :: st)) : T3 G GM X Sc Sm wl L pc (.int y :: .int x :: st) := fun H locs ls hW hW2 hP hS hl => lv_iadd C.1 C.2.1 hd (by rw [hv]; exact k H locs ls hW hW2 hP hS hl)
theorem t3_isub {x y v : Int32} (C : tw_C G X cc own) (hd : decode cc pc = .ok (.isub, 1)) (hv : x - y = v) (k : T3 G GM X Sc Sm wl L (pc + 1) (.int v :: st)) : T3 G GM X Sc Sm wl L pc (.int y :: .int x :: st) := fun H locs ls hW hW2 hP hS hl => lv_isub C.1 C.2.1 hd (by rw [hv]; exact k H locs ls hW hW2 hP hS hl)
theorem t3_imul {x y v : Int32} (C : tw_C G X cc own) (hd : decode cc pc = .ok (.imul, 1)) (hv : x * y = v) (k : T3 G GM X Sc Sm wl L (pc + 1) (.int v :: st)) : T3 G GM X Sc Sm wl L pc (.int y :: .int x :: st) := fun H locs ls hW hW2 hP hS hl => lv_imul C.1 C.2.1 hd (by rw [hv]; exact k H locs ls hW hW2 hP hS hl)
theorem t3_irem {x y v : Int32} (C : tw_C G X cc own) (hd : decode cc pc = .ok (.irem, 1)) (hne : ¬ y = 0) (hv : x - x / y * y = v) (k : T3 G GM X Sc Sm wl L (pc + 1) (.int v :: st)) : T3 G GM X Sc Sm wl L pc (.int y :: .int x :: st) := fun H locs ls hW hW2 hP hS hl => lv_irem C.1 C.2.1 hd hne (by rw [hv]; exact k H locs ls hW hW2 hP hS hl)
theorem t3_if_eq {x : Int32} {off : Int} {tgt : Nat} (C : tw_C G X cc own) (hd : decode cc pc = .ok (.ifCond .eq off, 3)) (ht : (pc : Int) + off = (tgt : Int)) (kt : x = 0 → T3 G GM X Sc Sm wl L tgt st) (kf : ¬ x = 0 → T3 G GM X Sc Sm wl L (pc + 3) st) : T3 G GM X Sc Sm wl L pc (.int x :: st) := fun H locs ls hW hW2 hP hS hl => lv_if_eq C.1 C.2.1 hd ht (fun c => kt c H locs ls hW hW2 hP hS hl) (fun c => kf c H locs ls hW hW2 hP hS hl)
theorem t3_icmp_eq {x y : Int32} {off : Int} {tgt : Nat} (C : tw_C G X cc own) (hd : decode cc pc = .ok (.if_icmp .eq off, 3)) (ht : (pc : Int) + off = (tgt : Int)) (kt : x = y → T3 G GM X Sc Sm wl L tgt st) (kf : ¬ x = y → T3 G GM X Sc Sm wl L (pc + 3) st) : T3 G GM X Sc Sm wl L pc (.int y :: .int x :: st) := fun H locs ls hW hW2 hP hS hl => lv_icmp_eq C.1 C.2.1 hd ht (fun c => kt c H locs ls hW hW2 hP hS hl) (fun c => kf c H locs ls hW hW2 hP hS hl)
theorem t3_if_ne {x : Int32} {off : Int} {tgt : Nat} (C : tw_C G X cc own) (hd : decode cc pc = .ok (.ifCond .ne off, 3)) (ht : (pc : Int) + off = (tgt : Int)) (kt : ¬ x = 0 → T3 G GM X Sc Sm wl L tgt st) (kf : x = 0 → T3 G GM X Sc Sm wl L (pc + 3) st) : T3 G GM X Sc Sm wl L pc (.int x :: st) := fun H locs ls hW hW2 hP hS hl => lv_if_ne C.1 C.2.1 hd ht (fun c => kt c H locs ls hW hW2 hP hS hl) (fun c => kf c H locs ls hW hW2 hP hS hl)
theorem t3_icmp_ne {x y : Int32} {off : Int} {tgt : Nat} (C : tw_C G X cc own) (hd : decode cc pc = .ok (.if_icmp .ne off, 3)) (ht : (pc : Int) + off = (tgt : Int)) (kt : ¬ x = y → T3 G GM X Sc Sm wl L tgt st) (kf : x = y → T3 G GM X Sc Sm wl L (pc + 3) st) : T3 G GM X Sc Sm wl L pc (.int y :: .int x :: st) := fun H locs ls hW hW2 hP hS hl => lv_icmp_ne C.1 C.2.1 hd ht (fun c => kt c H locs ls hW hW2 hP hS hl) (fun c => kf c H locs ls hW hW2 hP hS hl)
theorem t3_if_lt {x : Int32} {off : Int} {tgt : Nat} (C : tw_C G X cc own) (hd : decode cc pc = .ok (.ifCond .lt off, 3)) (ht : (pc : Int) + off = (tgt : Int)) (kt : x < 0 → T3 G GM X Sc Sm wl L tgt st) (kf : ¬ x < 0 → T3 G GM X Sc Sm wl L (pc + 3) st) : T3 G GM X Sc Sm wl L pc (.int x :: st) := fun H locs ls hW hW2 hP hS hl => lv_if_lt C.1 C.2.1 hd ht (fun c => kt c H locs ls hW hW2 hP hS hl) (fun c => kf c H locs ls hW hW2 hP hS hl)
theorem t3_icmp_lt {x y : Int32} {off : Int} {tgt : Nat} (C : tw_C G X cc own) (hd : decode cc pc = .ok (.if_icmp .lt off, 3)) (ht : (pc : Int) + off = (tgt : Int)) (kt : x < y → T3 G GM X Sc Sm wl L tgt st) (kf : ¬ x < y → T3 G GM X Sc Sm wl L (pc + 3) st) : T3 G GM X Sc Sm wl L pc (.int y :: .int x :: st) := fun H locs ls hW hW2 hP hS hl => lv_icmp_lt C.1 C.2.1 hd ht (fun c => kt c H locs ls hW hW2 hP hS hl) (fun c => kf c H locs ls hW hW2 hP hS hl)
theorem t3_if_ge {x : Int32} {off : Int} {tgt : Nat} (C : tw_C G X cc own) (hd : decode cc pc = .ok (.ifCond .ge off, 3)) (ht : (pc : Int) + off = (tgt : Int)) (kt : 0 ≤ x → T3 G GM X Sc Sm wl L tgt st) (kf : ¬ 0 ≤ x → T3 G GM X Sc Sm wl L (pc + 3) st) : T3 G GM X Sc Sm wl L pc (.int x :: st) := fun H locs ls hW hW2 hP hS hl => lv_if_ge C.1 C.2.1 hd ht (fun c => kt c H locs ls hW hW2 hP hS hl) (fun c => kf c H locs ls hW hW2 hP hS hl)
theorem t3_icmp_ge {x y : Int32} {off : Int} {tgt : Nat} (C : tw_C G X cc own) (hd : decode cc pc = .ok (.if_icmp .ge off, 3)) (ht : (pc : Int) + off = (tgt : Int)) (kt : y ≤ x → T3 G GM X Sc Sm wl L tgt st) (kf : ¬ y ≤ x → T3 G GM X Sc Sm wl L (pc + 3) st) : T3 G GM X Sc Sm wl L pc (.int y :: .int x :: st) := fun H locs ls hW hW2 hP hS hl => lv_icmp_ge C.1 C.2.1 hd ht (fun c => kt c H locs ls hW hW2 hP hS hl) (fun c => kf c H locs ls hW hW2 hP hS hl)
theorem t3_if_gt {x : Int32} {off : Int} {tgt : Nat} (C : tw_C G X cc own) (hd : decode cc pc = .ok (.ifCond .gt off, 3)) (ht : (pc : Int) + off = (tgt : Int)) (kt : 0 < x → T3 G GM X Sc Sm wl L tgt st) (kf : ¬ 0 < x → T3 G GM X Sc Sm wl L (pc + 3) st) : T3 G GM X Sc Sm wl L pc (.int x :: st) := fun H locs ls hW hW2 hP hS hl => lv_if_gt C.1 C.2.1 hd ht (fun c => kt c H locs ls hW hW2 hP hS hl) (fun c => kf c H locs ls hW hW2 hP hS hl)
theorem t3_icmp_gt {x y : Int32} {off : Int} {tgt : Nat} (C : tw_C G X cc own) (hd : decode cc pc = .ok (.if_icmp .gt off, 3)) (ht : (pc : Int) + off = (tgt : Int)) (kt : y < x → T3 G GM X Sc Sm wl L tgt st) (kf : ¬ y < x → T3 G GM X Sc Sm wl L (pc + 3) st) : T3 G GM X Sc Sm wl L pc (.int y :: .int x :: st) := fun H locs ls hW hW2 hP hS hl => lv_icmp_gt C.1 C.2.1 hd ht (fun c => kt c H locs ls hW hW2 hP hS hl) (fun c => kf c H locs ls hW hW2 hP hS hl)
theorem t3_if_le {x : Int32} {off : Int} {tgt : Nat} (C : tw_C G X cc own) (hd : decode cc pc = .ok (.ifCond .le off, 3)) (ht : (pc : Int) + off = (tgt : Int)) (kt : x ≤ 0 → T3 G GM X Sc Sm wl L tgt st) (kf : ¬ x ≤ 0 → T3 G GM X Sc Sm wl L (pc + 3) st) : T3 G GM X Sc Sm wl L pc (.int x :: st) := fun H locs ls hW hW2 hP hS hl => lv_if_le C.1 C.2.1 hd ht (fun c => kt c H locs ls hW hW2 hP hS hl) (fun c => kf c H locs ls hW hW2 hP hS hl)
theorem t3_icmp_le {x y : Int32} {off : Int} {tgt : Nat} (C : tw_C G X cc own) (hd : decode cc pc = .ok (.if_icmp .le off, 3)) (ht : (pc : Int) + off = (tgt : Int)) (kt : x ≤ y → T3 G GM X Sc Sm wl L tgt st) (kf : ¬ x ≤ y → T3 G GM X Sc Sm wl L (pc + 3) st) : T3 G GM X Sc Sm wl L pc (.int y :: .int x :: st) := fun H locs ls hW hW2 hP hS hl => lv_icmp_le C.1 C.2.1 hd ht (fun c => kt c H locs ls hW hW2 hP hS hl) (fun c => kf c H locs ls hW hW2 hP hS hl)
theorem t3_goto {off : Int} {tgt : Nat} (C : tw_C G X cc own) (hd : decode cc pc = .ok (.goto off, 3)) (ht : (pc : Int) + off = (tgt : Int)) (k : T3 G GM X Sc Sm wl L tgt st) : T3 G GM X Sc Sm wl L pc st := fun H locs ls hW hW2 hP hS hl => lv_goto C.1 C.2.1 hd ht (k H locs ls hW hW2 hP hS hl)
theorem t3n_icmp_eq {a b : Nat} {off : Int} {tgt : Nat} (C : tw_C G X cc own) (hd : decode cc pc = .ok (.if_icmp .eq off, 3)) (ht : (pc : Int) + off = (tgt : Int)) (ha : a < 2 ^ 31) (hb : b < 2 ^ 31) (kt : a = b → T3 G GM X Sc Sm wl L tgt st) (kf : ¬ a = b → T3 G GM X Sc Sm wl L (pc + 3) st) : T3 G GM X Sc Sm wl L pc (.int (nI b) :: .int (nI a) :: st) := t3_icmp_eq C hd ht (fun c => kt ((nI_eq ha hb).mp c)) (fun c => kf ((not_congr (nI_eq ha hb)).mp c))
theorem t3n_icmp_ne {a b : Nat} {off : Int} {tgt : Nat} (C : tw_C G X cc own) (hd : decode cc pc = .ok (.if_icmp .ne off, 3)) (ht : (pc : Int) + off = (tgt : Int)) (ha : a < 2 ^ 31) (hb : b < 2 ^ 31) (kt : ¬ a = b → T3 G GM X Sc Sm wl L tgt st) (kf : a = b → T3 G GM X Sc Sm wl L (pc + 3) st) : T3 G GM X Sc Sm wl L pc (.int (nI b) :: .int (nI a) :: st) := t3_icmp_ne C hd ht (fun c => kt ((not_congr (nI_eq ha hb)).mp c)) (fun c => kf ((nI_eq ha hb).mp c))
theorem t3n_icmp_lt {a b : Nat} {off : Int} {tgt : Nat} (C : tw_C G X cc own) (hd : decode cc pc = .ok (.if_icmp .lt off, 3)) (ht : (pc : Int) + off = (tgt : Int)) (ha : a < 2 ^ 31) (hb : b < 2 ^ 31) (kt : a < b → T3 G GM X Sc Sm wl L tgt st) (kf : ¬ a < b → T3 G GM X Sc Sm wl L (pc + 3) st) : T3 G GM X Sc Sm wl L pc (.int (nI b) :: .int (nI a) :: st) := t3_icmp_lt C hd ht (fun c => kt ((nI_ltI ha hb).mp c)) (fun c => kf ((not_congr (nI_ltI ha hb)).mp c))
theorem t3n_icmp_ge {a b : Nat} {off : Int} {tgt : Nat} (C : tw_C G X cc own) (hd : decode cc pc = .ok (.if_icmp .ge off, 3)) (ht : (pc : Int) + off = (tgt : Int)) (ha : a < 2 ^ 31) (hb : b < 2 ^ 31) (kt : b ≤ a → T3 G GM X Sc Sm wl L tgt st) (kf : ¬ b ≤ a → T3 G GM X Sc Sm wl L (pc + 3) st) : T3 G GM X Sc Sm wl L pc (.int (nI b) :: .int (nI a) :: st) := t3_icmp_ge C hd ht (fun c => kt ((nI_leI hb ha).mp c)) (fun c => kf ((not_congr (nI_leI hb ha)).mp c))
theorem t3n_icmp_gt {a b : Nat} {off : Int} {tgt : Nat} (C : tw_C G X cc own) (hd : decode cc pc = .ok (.if_icmp .gt off, 3)) (ht : (pc : Int) + off = (tgt : Int)) (ha : a < 2 ^ 31) (hb : b < 2 ^ 31) (kt : b < a → T3 G GM X Sc Sm wl L tgt st) (kf : ¬ b < a → T3 G GM X Sc Sm wl L (pc + 3) st) : T3 G GM X Sc Sm wl L pc (.int (nI b) :: .int (nI a) :: st) := t3_icmp_gt C hd ht (fun c => kt ((nI_ltI hb ha).mp c)) (fun c => kf ((not_congr (nI_ltI hb ha)).mp c))
theorem t3n_icmp_le {a b : Nat} {off : Int} {tgt : Nat} (C : tw_C G X cc own) (hd : decode cc pc = .ok (.if_icmp .le off, 3)) (ht : (pc : Int) + off = (tgt : Int)) (ha : a < 2 ^ 31) (hb : b < 2 ^ 31) (kt : a ≤ b → T3 G GM X Sc Sm wl L tgt st) (kf : ¬ a ≤ b → T3 G GM X Sc Sm wl L (pc + 3) st) : T3 G GM X Sc Sm wl L pc (.int (nI b) :: .int (nI a) :: st) := t3_icmp_le C hd ht (fun c => kt ((nI_leI ha hb).mp c)) (fun c => kf ((not_congr (nI_leI ha hb)).mp c))
theorem t3n_if_eq {a : Nat} {off : Int} {tgt : Nat} (C : tw_C G X cc own) (hd : decode cc pc = .ok (.ifCond .eq off, 3)) (ht : (pc : Int) + off = (tgt : Int)) (ha : a < 2 ^ 31) (kt : a = 0 → T3 G GM X Sc Sm wl L tgt st) (kf : ¬ a = 0 → T3 G GM X Sc Sm wl L (pc + 3) st) : T3 G GM X Sc Sm wl L pc (.int (nI a) :: st) := t3_if_eq C hd ht (fun c => kt ((nI_eq ha (by decide : 0 < 2 ^ 31)).mp c)) (fun c => kf (fun h => c (h ▸ rfl)))
theorem t3n_if_ne {a : Nat} {off : Int} {tgt : Nat} (C : tw_C G X cc own) (hd : decode cc pc = .ok (.ifCond .ne off, 3)) (ht : (pc : Int) + off = (tgt : Int)) (ha : a < 2 ^ 31) (kt : ¬ a = 0 → T3 G GM X Sc Sm wl L tgt st) (kf : a = 0 → T3 G GM X Sc Sm wl L (pc + 3) st) : T3 G GM X Sc Sm wl L pc (.int (nI a) :: st) := t3_if_ne C hd ht (fun c => kt (fun h => c (h ▸ rfl))) (fun c => kf ((nI_eq ha (by decide : 0 < 2 ^ 31)).mp c))
theorem t3n_if_lt {a : Nat} {off : Int} {tgt : Nat} (C : tw_C G X cc own) (hd : decode cc pc = .ok (.ifCond .lt off, 3)) (ht : (pc : Int) + off = (tgt : Int)) (ha : a < 2 ^ 31) (kt : False → T3 G GM X Sc Sm wl L tgt st) (kf : True → T3 G GM X Sc Sm wl L (pc + 3) st) : T3 G GM X Sc Sm wl L pc (.int (nI a) :: st) := t3_if_lt C hd ht (fun c => kt (nI_pos ha c)) (fun c => kf (trivial))
theorem t3n_if_ge {a : Nat} {off : Int} {tgt : Nat} (C : tw_C G X cc own) (hd : decode cc pc = .ok (.ifCond .ge off, 3)) (ht : (pc : Int) + off = (tgt : Int)) (ha : a < 2 ^ 31) (kt : True → T3 G GM X Sc Sm wl L tgt st) (kf : False → T3 G GM X Sc Sm wl L (pc + 3) st) : T3 G GM X Sc Sm wl L pc (.int (nI a) :: st) := t3_if_ge C hd ht (fun c => kt (trivial)) (fun c => kf (c (nI_pos' ha)))
theorem t3n_if_gt {a : Nat} {off : Int} {tgt : Nat} (C : tw_C G X cc own) (hd : decode cc pc = .ok (.ifCond .gt off, 3)) (ht : (pc : Int) + off = (tgt : Int)) (ha : a < 2 ^ 31) (kt : 0 < a → T3 G GM X Sc Sm wl L tgt st) (kf : a = 0 → T3 G GM X Sc Sm wl L (pc + 3) st) : T3 G GM X Sc Sm wl L pc (.int (nI a) :: st) := t3_if_gt C hd ht (fun c => kt (Nat.pos_of_ne_zero fun h => absurd c (h ▸ by decide))) (fun c => kf (Nat.le_zero.mp (Nat.not_lt.mp fun h => c ((nI_ltI (by decide : 0 < 2 ^ 31) ha).mpr h))))
theorem t3n_if_le {a : Nat} {off : Int} {tgt : Nat} (C : tw_C G X cc own) (hd : decode cc pc = .ok (.ifCond .le off, 3)) (ht : (pc : Int) + off = (tgt : Int)) (ha : a < 2 ^ 31) (kt : a = 0 → T3 G GM X Sc Sm wl L tgt st) (kf : 0 < a → T3 G GM X Sc Sm wl L (pc + 3) st) : T3 G GM X Sc Sm wl L pc (.int (nI a) :: st) := t3_if_le C hd ht (fun c => kt (Nat.le_zero.mp (Nat.not_lt.mp fun h => nI_nle h ha c))) (fun c => kf (Nat.pos_of_ne_zero fun h => c (h ▸ by decide)))
theorem t3b_if_eq {b : Bool} {off : Int} {tgt : Nat} (C : tw_C G X cc own) (hd : decode cc pc = .ok (.ifCond .eq off, 3)) (ht : (pc : Int) + off = (tgt : Int)) (kt : b = false → T3 G GM X Sc Sm wl L tgt st) (kf : b = true → T3 G GM X Sc Sm wl L (pc + 3) st) : T3 G GM X Sc Sm wl L pc (.int (bI b) :: st) := t3_if_eq C hd ht (fun c => kt ((bI_0 b).mp c)) (fun c => kf (by cases b with | true => rfl | false => exact absurd rfl c))
theorem t3b_if_ne {b : Bool} {off : Int} {tgt : Nat} (C : tw_C G X cc own) (hd : decode cc pc = .ok (.ifCond .ne off, 3)) (ht : (pc : Int) + off = (tgt : Int)) (kt : b = true → T3 G GM X Sc Sm wl L tgt st) (kf : b = false → T3 G GM X Sc Sm wl L (pc + 3) st) : T3 G GM X Sc Sm wl L pc (.int (bI b) :: st) := t3_if_ne C hd ht (fun c => kt (by cases b with | true => rfl | false => exact absurd rfl c)) (fun c => kf ((bI_0 b).mp c))
theorem t3_after {α : Type} {inj : α → Option Value} {post : α → tw_S → Prop} {G1 : tw_G} {H : Heap} {locs : List Loc} {ls : Array Slot} {a : Array Value} {rest : List Value} (C : tw_C G1 X cc own) (hS : va_S (tx_A X) (tx_s X).heap H locs)
    (hr : va_Run (tx_p X) (tw_l G1) (tx_e X) (tx_R X) (tx_s X) (tx_m X) (tx_a X) (tx_b X) (tx_t X) (tx_c X) H locs (tx_k X) (tx_z X) 0 0 (F0 (tx_m X) pc ls st) rest (tw_Qc G1 H.size inj post a) (tw_AA G1 H.size))
    (kk : ∀ (v : α) (S' : tw_S) (H1 : Heap) (locs1 : List Loc), post v S' → tw_W G1 S' H1 → (∀ q, q < H.size → ¬ tw_AA G1 H.size q → H1[q]? = H[q]?) → va_S (tx_A X) (tx_s X).heap H1 locs1 → W (tx_p X) (tw_l G1) (tx_e X) (tx_R X) (tx_s X) (tx_m X) (tx_a X) (tx_b X) (tx_t X) (tx_c X) H1 locs1 (tx_k X) (tx_z X) (tx_Q X) (F0 (tx_m X) (pc + 3) ls ((inj v).toList ++ rest))) : tx_W G1 X H locs pc ls st := by
  intro T hT Xs
  obtain ⟨v, st₀, t, T', L1, h0, X', hL1, e1, e2, ⟨⟨x, S', hv, hpo, hWt⟩, hz, hk⟩, stp⟩ := hr T hT Xs
  cases hv
  rw [h0] at hz hk
  obtain ⟨t2, a1, b1⟩ := kk x S' T'.heap (locs ++ L1) hpo (by rw [e1]; exact hWt) (fun q h1 h2 => by rw [e1]; exact hk q h1 h2)
    ⟨Nat.le_trans hS.1 (by rw [e1]; exact hz), fun q h1 h2 => by
      rw [e1, hk q (Nat.lt_of_lt_of_le h1 hS.1) (fun z => h2 (tw_AAs C hS.1 q z))]
      exact hS.2.1 q h1 h2, fun q hq => by
      rcases List.mem_append.mp hq with h | h
      · exact hS.2.2 q h
      · exact tw_AAs C hS.1 _ (hL1 q h)⟩ T' rfl X'
  exact ⟨t2, stp t2 a1, b1⟩
theorem t3_callV {α : Type} {inj : α → Option Value} {post : α → tw_S → Prop} {ret : Option FieldType} {y : MethodName} {bytes : ByteArray} {maxL fr lo nL fr0 lo0 idx n r ci N : Nat} {cs : List Nat} {T : u_T} {As rest : List Value} (hdj : ∀ q, q ∈ tw_LA GM → q ∉ tw_LA G) (hll : tw_l GM = tw_l G) (hAW : AW G GM wl) (C : tw_C G X cc own) (NN : tw_N X nL fr0 lo0) (hM : tw_M G y bytes maxL ret fr lo (.ref (tw_ad G r) :: As) Sc inj post) (hm : tw_mV y bytes maxL ret n) (hw : Cond.methodLink own idx y ∈ lw_g) (hAs : As.length = n) (hP : tw_P G r) (hsh : tw_sh r = some (ci, cs)) (hcl : vwCl[ci]? = some (y.cls, T, N)) (hR : fr + 1 ≤ fr0 ∧ 8 + (maxL + 11) + lo ≤ lo0) (hst : st = As.reverse ++ .ref (tw_ad G r) :: rest) (hrm : (rest.map fun v => v.category).sum ≤ 8) (hd : decode cc pc = .ok (.invokevirtual idx, 3))
    (kk : ∀ (v : α) (S' : tw_S), post v S' → T3 G GM X S' Sm wl L (pc + 3) ((inj v).toList ++ rest)) : T3 G GM X Sc Sm wl L pc st := by
  intro H locs ls hWc hWm hPw hS hl
  have hW := hWc
  have hW0 := hW
  obtain ⟨hwf, f, hPf, hen⟩ := hW
  have he := hen r hP
  simp only [tw_en, hsh] at he
  obtain ⟨q0, hq0⟩ := tw_at (f := f) C hP
  rw [he] at hq0
  have hcw : CallW (tx_R X) (tx_s X) (tx_a X) own y.cls idx y bytes maxL ret (Cond.code y bytes maxL ret :: lw_g) ({ frames := fr, cells := 0, slots := 0, locals := lo }) 0 0 n :=
    ⟨⟨rfl, rfl, by rw [NN.2.1]; exact hR.1, by rw [NN.2.2.1]; exact hR.2, tw_words C hm.2.2.2.1, List.mem_cons_self, C.ts _ hm.2.2.2.1, C.ts _ hm.2.2.1, ⟨hm.2.2.2.2.1, hm.2.2.2.2.2.1⟩, fun sig h => by
      have h2 := hm.2.2.2.2.2.2
      rw [h] at h2
      exact (Option.some.inj h2).symm, C.ts _ hw⟩, C.ts _ hm.1, C.ts _ hm.2.1⟩
  have hp : PreV (tx_s X) H y.cls (tw_ad G r) (tw_Pc G H.size (.ref (tw_ad G r) :: As) Sc) As := ⟨tw_blind, va_recv C.E.1 (show va_P (tw_D G) vwCl (([] : va_W) ++ va_pl (tw_LA G) f) H from hPf) hcl hq0, fun U hU hWm => ⟨rfl, tw_pre C hW0 hS hU hWm⟩⟩
  exact t3_after C hS (va_runV (n := n) ⟨C.1, C.2.1, C.2.2.1, C.ow, C.ts⟩ (hM H.size) hcw hp rfl hAs hl.1 hst (lv_room hrm) hd ⟨NN.2.2.2.1, NN.2.2.2.2⟩) (fun v S' H1 locs1 hpo hW1 hfr hS1 => kk v S' hpo H1 locs1 ls hW1 (tw_W_kept hWm (fun q hq hlt => hfr q hlt (fun h => h.elim (fun g => hdj q hq g) (fun g => absurd hlt (Nat.not_lt.mpr g))))) (hPw.kept (fun k q hk => hfr q.1 (hPw k q hk).lt (fun h => h.elim (fun g => (hAW k q hk).1 g) (fun g => absurd (hPw k q hk).lt (Nat.not_lt.mpr g))))) hS1 hl)
theorem t3_callVM {α : Type} {inj : α → Option Value} {post : α → tw_S → Prop} {ret : Option FieldType} {y : MethodName} {bytes : ByteArray} {maxL fr lo nL fr0 lo0 idx n r ci N : Nat} {cs : List Nat} {T : u_T} {As rest : List Value} (hdj : ∀ q, q ∈ tw_LA GM → q ∉ tw_LA G) (hll : tw_l GM = tw_l G) (hAW : AW G GM wl) (C : tw_C GM X cc own) (NN : tw_N X nL fr0 lo0) (hM : tw_M GM y bytes maxL ret fr lo (.ref (tw_ad GM r) :: As) Sm inj post) (hm : tw_mV y bytes maxL ret n) (hw : Cond.methodLink own idx y ∈ lw_g) (hAs : As.length = n) (hP : tw_P GM r) (hsh : tw_sh r = some (ci, cs)) (hcl : vwCl[ci]? = some (y.cls, T, N)) (hR : fr + 1 ≤ fr0 ∧ 8 + (maxL + 11) + lo ≤ lo0) (hst : st = As.reverse ++ .ref (tw_ad GM r) :: rest) (hrm : (rest.map fun v => v.category).sum ≤ 8) (hd : decode cc pc = .ok (.invokevirtual idx, 3))
    (kk : ∀ (v : α) (S' : tw_S), post v S' → T3 G GM X Sc S' wl L (pc + 3) ((inj v).toList ++ rest)) : T3 G GM X Sc Sm wl L pc st := by
  intro H locs ls hWc hWm hPw hS hl
  have hW := hWm
  have hW0 := hW
  obtain ⟨hwf, f, hPf, hen⟩ := hW
  have he := hen r hP
  simp only [tw_en, hsh] at he
  obtain ⟨q0, hq0⟩ := tw_at (f := f) C hP
  rw [he] at hq0
  have hcw : CallW (tx_R X) (tx_s X) (tx_a X) own y.cls idx y bytes maxL ret (Cond.code y bytes maxL ret :: lw_g) ({ frames := fr, cells := 0, slots := 0, locals := lo }) 0 0 n :=
    ⟨⟨rfl, rfl, by rw [NN.2.1]; exact hR.1, by rw [NN.2.2.1]; exact hR.2, tw_words C hm.2.2.2.1, List.mem_cons_self, C.ts _ hm.2.2.2.1, C.ts _ hm.2.2.1, ⟨hm.2.2.2.2.1, hm.2.2.2.2.2.1⟩, fun sig h => by
      have h2 := hm.2.2.2.2.2.2
      rw [h] at h2
      exact (Option.some.inj h2).symm, C.ts _ hw⟩, C.ts _ hm.1, C.ts _ hm.2.1⟩
  have hp : PreV (tx_s X) H y.cls (tw_ad GM r) (tw_Pc GM H.size (.ref (tw_ad GM r) :: As) Sm) As := ⟨tw_blind, va_recv C.E.1 (show va_P (tw_D GM) vwCl (([] : va_W) ++ va_pl (tw_LA GM) f) H from hPf) hcl hq0, fun U hU hWm => ⟨rfl, tw_pre C hW0 hS hU hWm⟩⟩
  unfold tx_W
  rw [← hll]
  refine t3_after C hS (va_runV (n := n) ⟨C.1, C.2.1, C.2.2.1, C.ow, C.ts⟩ (hM H.size) hcw hp rfl hAs hl.1 hst (lv_room hrm) hd ⟨NN.2.2.2.1, NN.2.2.2.2⟩) (fun v S' H1 locs1 hpo hW1 hfr hS1 => ?_)
  have h9 := kk v S' hpo H1 locs1 ls (tw_W_kept hWc (fun q hq hlt => hfr q hlt (fun h => h.elim (fun g => hdj q g hq) (fun g => absurd hlt (Nat.not_lt.mpr g))))) hW1 (hPw.kept (fun k q hk => hfr q.1 (hPw k q hk).lt (fun h => h.elim (fun g => (hAW k q hk).2 g) (fun g => absurd (hPw k q hk).lt (Nat.not_lt.mpr g))))) hS1 hl
  unfold tx_W at h9
  rw [← hll] at h9
  exact h9
theorem t3_callS {α : Type} {inj : α → Option Value} {post : α → tw_S → Prop} {ret : Option FieldType} {y : MethodName} {bytes : ByteArray} {maxL fr lo nL fr0 lo0 idx n : Nat} {As rest : List Value} (hdj : ∀ q, q ∈ tw_LA GM → q ∉ tw_LA G) (hll : tw_l GM = tw_l G) (hAW : AW G GM wl) (C : tw_C G X cc own) (NN : tw_N X nL fr0 lo0) (hM : tw_M G y bytes maxL ret fr lo As Sc inj post) (hm : tw_mS y bytes maxL ret n) (hw : Cond.methodLink own idx y ∈ lw_g) (hAs : As.length = n) (hR : fr + 1 ≤ fr0 ∧ 8 + (maxL + 11) + lo ≤ lo0) (hst : st = As.reverse ++ rest) (hrm : (rest.map fun v => v.category).sum ≤ 8) (hd : decode cc pc = .ok (.invokestatic idx, 3))
    (kk : ∀ (v : α) (S' : tw_S), post v S' → T3 G GM X S' Sm wl L (pc + 3) ((inj v).toList ++ rest)) : T3 G GM X Sc Sm wl L pc st := by
  intro H locs ls hWc hWm hPw hS hl
  have hW := hWc
  have hcw : CallB (tx_R X) (tx_s X) (tx_a X) own idx y bytes maxL ret (Cond.code y bytes maxL ret :: lw_g) ({ frames := fr, cells := 0, slots := 0, locals := lo }) 0 0 n ∧ (Cond.static y).before (tx_a X) (tx_s X) = true :=
    ⟨⟨rfl, rfl, by rw [NN.2.1]; exact hR.1, by rw [NN.2.2.1]; exact hR.2, tw_words C hm.2.2.1, List.mem_cons_self, C.ts _ hm.2.2.1, C.ts _ hm.2.1, ⟨hm.2.2.2.1, hm.2.2.2.2.1⟩, fun sig h => by
      have h2 := hm.2.2.2.2.2
      rw [h] at h2
      exact (Option.some.inj h2).symm, C.ts _ hw⟩, C.ts _ hm.1⟩
  have hp : PreS (tx_s X) H (tw_Pc G H.size As Sc) As := ⟨tw_blind, fun U hU hWm => ⟨rfl, tw_pre C hW hS hU hWm⟩⟩
  exact t3_after C hS (va_runS (n := n) ⟨C.1, C.2.1, C.2.2.1, C.ow, C.ts⟩ (hM H.size) hcw hp rfl hAs hl.1 hst (lv_room hrm) hd ⟨NN.2.2.2.1, NN.2.2.2.2⟩) (fun v S' H1 locs1 hpo hW1 hfr hS1 => kk v S' hpo H1 locs1 ls hW1 (tw_W_kept hWm (fun q hq hlt => hfr q hlt (fun h => h.elim (fun g => hdj q hq g) (fun g => absurd hlt (Nat.not_lt.mpr g))))) (hPw.kept (fun k q hk => hfr q.1 (hPw k q hk).lt (fun h => h.elim (fun g => (hAW k q hk).1 g) (fun g => absurd (hPw k q hk).lt (Nat.not_lt.mpr g))))) hS1 hl)
theorem t3_callSM {α : Type} {inj : α → Option Value} {post : α → tw_S → Prop} {ret : Option FieldType} {y : MethodName} {bytes : ByteArray} {maxL fr lo nL fr0 lo0 idx n : Nat} {As rest : List Value} (hdj : ∀ q, q ∈ tw_LA GM → q ∉ tw_LA G) (hll : tw_l GM = tw_l G) (hAW : AW G GM wl) (C : tw_C GM X cc own) (NN : tw_N X nL fr0 lo0) (hM : tw_M GM y bytes maxL ret fr lo As Sm inj post) (hm : tw_mS y bytes maxL ret n) (hw : Cond.methodLink own idx y ∈ lw_g) (hAs : As.length = n) (hR : fr + 1 ≤ fr0 ∧ 8 + (maxL + 11) + lo ≤ lo0) (hst : st = As.reverse ++ rest) (hrm : (rest.map fun v => v.category).sum ≤ 8) (hd : decode cc pc = .ok (.invokestatic idx, 3))
    (kk : ∀ (v : α) (S' : tw_S), post v S' → T3 G GM X Sc S' wl L (pc + 3) ((inj v).toList ++ rest)) : T3 G GM X Sc Sm wl L pc st := by
  intro H locs ls hWc hWm hPw hS hl
  have hW := hWm
  have hcw : CallB (tx_R X) (tx_s X) (tx_a X) own idx y bytes maxL ret (Cond.code y bytes maxL ret :: lw_g) ({ frames := fr, cells := 0, slots := 0, locals := lo }) 0 0 n ∧ (Cond.static y).before (tx_a X) (tx_s X) = true :=
    ⟨⟨rfl, rfl, by rw [NN.2.1]; exact hR.1, by rw [NN.2.2.1]; exact hR.2, tw_words C hm.2.2.1, List.mem_cons_self, C.ts _ hm.2.2.1, C.ts _ hm.2.1, ⟨hm.2.2.2.1, hm.2.2.2.2.1⟩, fun sig h => by
      have h2 := hm.2.2.2.2.2
      rw [h] at h2
      exact (Option.some.inj h2).symm, C.ts _ hw⟩, C.ts _ hm.1⟩
  have hp : PreS (tx_s X) H (tw_Pc GM H.size As Sm) As := ⟨tw_blind, fun U hU hWm => ⟨rfl, tw_pre C hW hS hU hWm⟩⟩
  unfold tx_W
  rw [← hll]
  refine t3_after C hS (va_runS (n := n) ⟨C.1, C.2.1, C.2.2.1, C.ow, C.ts⟩ (hM H.size) hcw hp rfl hAs hl.1 hst (lv_room hrm) hd ⟨NN.2.2.2.1, NN.2.2.2.2⟩) (fun v S' H1 locs1 hpo hW1 hfr hS1 => ?_)
  have h9 := kk v S' hpo H1 locs1 ls (tw_W_kept hWc (fun q hq hlt => hfr q hlt (fun h => h.elim (fun g => hdj q g hq) (fun g => absurd hlt (Nat.not_lt.mpr g))))) hW1 (hPw.kept (fun k q hk => hfr q.1 (hPw k q hk).lt (fun h => h.elim (fun g => (hAW k q hk).2 g) (fun g => absurd (hPw k q hk).lt (Nat.not_lt.mpr g))))) hS1 hl
  unfold tx_W at h9
  rw [← hll] at h9
  exact h9
/-- the law's own array -/
theorem t3_newa (C : tw_C G X cc own) (hw : Cond.arrayClass (newarray.typeOf .int) ∈ lw_g) (hd : decode cc pc = .ok (.newarray .int, 2)) (h1 : tx_k X + 1 ≤ (tx_R X).cells) (h2 : tx_z X + 64 ≤ (tx_R X).slots) (kk : ∀ ah, ah ∉ tw_LA G → ah ∉ tw_LA GM → tx_A X ah → T3 G GM (txN X) Sc Sm [(ah, .inl (tw_cy G 0, 64, .inl (fun _ => 0)))] L (pc + 2) (.ref ah :: st)) : T3 G GM X Sc Sm [] L pc (.int (nI 64) :: st) := by
  intro H locs ls hWc hWm hPw hS hl
  refine va_newaK C.1 C.2.1 (C.ts _ hw) rfl hd rfl (n := nI 64) (N := 64) (by decide) (by decide) (Nat.le_of_ble_eq_true rfl) h1 h2 rfl fun H1 cA e1 z1 o1 hAr hNm => ?_
  have hc : cA = tw_cy G 0 := Option.some.inj (hNm.symm.trans (C.E.1.2 0 _ rfl).2)
  subst hc
  refine kk H.size (fun h => Nat.lt_irrefl _ (tw_W_lt hWc h)) (fun h => Nat.lt_irrefl _ (tw_W_lt hWm h)) (C.A _ hS.1) H1 locs ls (tw_W_kept hWc (fun q _ hlt => o1 q hlt)) (tw_W_kept hWm (fun q _ hlt => o1 q hlt)) (fun k q hk => ?_) ⟨show (tx_s X).heap.size ≤ H1.size by have := hS.1; omega, fun x (g1 : x < (tx_s X).heap.size) g2 => (o1 x (by have := hS.1; omega)).trans (hS.2.1 x g1 g2), hS.2.2⟩ hl
  cases k with
  | zero =>
    have hq := Option.some.inj (show some (H.size, (Sum.inl (tw_cy G 0, 64, .inl (fun _ => 0)) : va_E)) = some q from hk)
    subst hq
    show H1[H.size]? = some (vp_cell _ _)
    rw [vp_cell_i]
    exact e1
  | succ k => cases hk
theorem t3_iald {a n i : Nat} {f : Nat → Int32} {v : Int32} (C : tw_C G X cc own) (hd : decode cc pc = .ok (.iaload, 1)) (hi : i < n) (hn : n < 2 ^ 31) (hv : f i = v) (kk : T3 G GM X Sc Sm [(a, .inl (tw_cy G 0, n, .inl f))] L (pc + 1) (.int v :: st)) : T3 G GM X Sc Sm [(a, .inl (tw_cy G 0, n, .inl f))] L pc (.int (nI i) :: .ref a :: st) := by
  intro H locs ls hWc hWm hPw hS hl
  refine va_iald (D := tw_D G) (tys := tw_tys G) C.1 C.2.1 C.E.1 hPw 0 0 rfl rfl (vp_in_nI hi hn) hd ?_
  rw [nI_clamp (by omega), hv]
  exact kk H locs ls hWc hWm hPw hS hl
theorem t3_iast {a n i : Nat} {f : Nat → Int32} {x : Int32} (C : tw_C G X cc own) (hd : decode cc pc = .ok (.iastore, 1)) (hi : i < n) (hn : n < 2 ^ 31) (h1 : a ∉ tw_LA G) (h2 : a ∉ tw_LA GM) (hA : tx_A X a) (kk : T3 G GM X Sc Sm [(a, .inl (tw_cy G 0, n, .inl (upd f i x)))] L (pc + 1) st) : T3 G GM X Sc Sm [(a, .inl (tw_cy G 0, n, .inl f))] L pc (.int x :: .int (nI i) :: .ref a :: st) := by
  intro H locs ls hWc hWm hPw hS hl
  have hD : va_D (tx_A X) ([(a, .inl (tw_cy G 0, n, .inl f))] : va_W) := by
    refine ⟨fun i j p q hi hj _ => ?_, fun k q hk => ?_⟩
    · have := (List.getElem?_eq_some_iff.mp hi).1
      have := (List.getElem?_eq_some_iff.mp hj).1
      simp only [List.length_cons, List.length_nil] at *
      omega
    · cases k with
      | zero =>
        have hq := Option.some.inj (show some (a, (Sum.inl (tw_cy G 0, n, .inl f) : va_E)) = some q from hk)
        subst hq
        exact hA
      | succ k => cases hk
  refine W.iast C.1 C.2.1 (hPw 0 _ rfl) ((C.E.1.2 0 _ rfl).1 n (fun j => .int (f j))) (fun q => by cases q) (by show ¬ (nI i < 0 ∨ (arrV _ _ _).slots.size ≤ _); rw [arrV_size]; exact vp_in_nI hi hn) rfl rfl hd fun H1 e z oq => ?_
  refine kk H1 _ ls (tw_W_kept hWc (fun q hq _ => oq q (fun h => h1 (by have e : q = a := h; rw [← e]; exact hq)))) (tw_W_kept hWm (fun q hq _ => oq q (fun h => h2 (by have e : q = a := h; rw [← e]; exact hq)))) (show va_P (tw_D G) vwCl (([(a, .inl (tw_cy G 0, n, .inl f))] : va_W).set 0 (a, .inl (tw_cy G 0, n, .inl (upd f i x)))) H1 from hPw.set hD rfl ?_ oq) (hS.put z oq hA) hl
  show H1[a]? = some (vp_cell _ _)
  rw [e]
  rw [vp_cell_i, vp_cell_i, arrV_store, nI_clamp (by omega)]
  congr 2
  funext q
  by_cases hq : q = i
  · subst hq
    simp [updV, upd]
  · simp [updV, upd, hq]
end T3S
