/-! the law: two worlds side by side -/
def T2 (G GM : tw_G) (X : tw_X) (Sc Sm : tw_S) (L : List (Nat × Value)) (pc : Nat) (st : List Value) : Prop := ∀ (H : Heap) (locs : List Loc) (ls : Array Slot), tw_W G Sc H → tw_W GM Sm H → va_S (tx_A X) (tx_s X).heap H locs → lv_has ls (tx_n X) L → tx_W G X H locs pc ls st
theorem tw_W_kept {G : tw_G} {S : tw_S} {H H1 : Heap} (h : tw_W G S H) (hq : ∀ q, q ∈ tw_LA G → q < H.size → H1[q]? = H[q]?) : tw_W G S H1 := by
  obtain ⟨h1, f, h2, h3⟩ := h
  refine ⟨h1, f, h2.kept (fun k q hk => ?_), h3⟩
  obtain ⟨a, ha, rfl⟩ := List.mem_map.mp (List.mem_of_getElem? hk)
  exact hq a ha (h2 k _ hk).lt
section T2S
variable {G GM : tw_G} {X : tw_X} {Sc Sm : tw_S} {L L' : List (Nat × Value)} {pc : Nat} {st : List Value} {cc : ByteArray} {own : String}
theorem T2.c {L : List (Nat × Value)} (hs : ∀ q ∈ L', q ∈ L) (k : T2 G GM X Sc Sm L' pc st) : T2 G GM X Sc Sm L pc st := fun H locs ls h1 h2 hS hl => k H locs ls h1 h2 hS ⟨hl.1, hl.2.1, fun q hq => hl.2.2 q (hs q hq)⟩
theorem T2.ti {x y : Int32} (e : x = y) (k : T2 G GM X Sc Sm L pc (.int y :: st)) : T2 G GM X Sc Sm L pc (.int x :: st) := e ▸ k
theorem T2.stk {st' : List Value} (e : st = st') (k : T2 G GM X Sc Sm L pc st') : T2 G GM X Sc Sm L pc st := e ▸ k
theorem t2_sld {b N : Nat} {xs : Nat → Int32} {i : Int32} (C : tw_C G X cc own) (hX : va_X b N xs (tx_s X) (tx_s X).heap) (hbl : b < (tx_s X).heap.size) (hbA : ¬ tx_A X b) (hin : vp_in i N) (hd : decode cc pc = .ok (.iaload, 1)) (k : T2 G GM X Sc Sm L (pc + 1) (.int (xs i.toNatClampNeg) :: st)) : T2 G GM X Sc Sm L pc (.int i :: .ref b :: st) := fun H locs ls h1 h2 hS hl => va_sld C.1 C.2.1 hX hbl hbA hS hin hd (k H locs ls h1 h2 hS hl)
theorem t2_slen {b N : Nat} {xs : Nat → Int32} (C : tw_C G X cc own) (hX : va_X b N xs (tx_s X) (tx_s X).heap) (hbl : b < (tx_s X).heap.size) (hbA : ¬ tx_A X b) (hd : decode cc pc = .ok (.arraylength, 1)) (k : T2 G GM X Sc Sm L (pc + 1) (.int (Int32.ofNat N) :: st)) : T2 G GM X Sc Sm L pc (.ref b :: st) := fun H locs ls h1 h2 hS hl => va_slen C.1 C.2.1 hX hbl hbA hS hd (k H locs ls h1 h2 hS hl)
theorem t2_iconst {n : Int} {v : Int32} (C : tw_C G X cc own) (hd : decode cc pc = .ok (.iconst n, 1)) (hv : Int32.ofInt n = v) (k : T2 G GM X Sc Sm L (pc + 1) (.int v :: st)) : T2 G GM X Sc Sm L pc (st) := fun H locs ls hW hW2 hS hl => lv_iconst C.1 C.2.1 hd hv (k H locs ls hW hW2 hS hl)
theorem t2_bipush {n : Int} {v : Int32} (C : tw_C G X cc own) (hd : decode cc pc = .ok (.bipush n, 2)) (hv : (Int8.ofInt n).toInt32 = v) (k : T2 G GM X Sc Sm L (pc + 2) (.int v :: st)) : T2 G GM X Sc Sm L pc (st) := fun H locs ls hW hW2 hS hl => lv_bipush C.1 C.2.1 hd hv (k H locs ls hW hW2 hS hl)
theorem t2_sipush {n : Int} {v : Int32} (C : tw_C G X cc own) (hd : decode cc pc = .ok (.sipush n, 3)) (hv : (Int16.ofInt n).toInt32 = v) (k : T2 G GM X Sc Sm L (pc + 3) (.int v :: st)) : T2 G GM X Sc Sm L pc (st) := fun H locs ls hW hW2 hS hl => lv_sipush C.1 C.2.1 hd hv (k H locs ls hW hW2 hS hl)
theorem t2_lconst {n : Fin 2} {v : Int64} (C : tw_C G X cc own) (hd : decode cc pc = .ok (.lconst n, 1)) (hv : Int64.ofNat (n : Nat) = v) (k : T2 G GM X Sc Sm L (pc + 1) (.long v :: st)) : T2 G GM X Sc Sm L pc (st) := fun H locs ls hW hW2 hS hl => lv_lconst C.1 C.2.1 hd hv (k H locs ls hW hW2 hS hl)
theorem t2_ldc2 {index : Nat} {v w : Int64} (C : tw_C G X cc own) (hd : decode cc pc = .ok (.ldc2_w index, 3)) (hc : Cond.constantLong own index v ∈ lw_g) (hv : v = w) (k : T2 G GM X Sc Sm L (pc + 3) (.long w :: st)) : T2 G GM X Sc Sm L pc (st) := fun H locs ls hW hW2 hS hl => lv_ldc2 C.1 C.2.1 C.2.2.2.1 (C.2.2.2.2.1 _ (hv ▸ hc)) hd (k H locs ls hW hW2 hS hl)
theorem t2_iload_n {k : Fin 4} {x : Int32} (C : tw_C G X cc own) (hd : decode cc pc = .ok (.iload_n k, 1)) (j : Nat) (hj : L[j]? = some ((k : Nat), .int x)) (k : T2 G GM X Sc Sm L (pc + 1) (.int x :: st)) : T2 G GM X Sc Sm L pc (st) := fun H locs ls hW hW2 hS hl => lv_iload_n C.1 C.2.1 hd rfl (lv_at hl j hj) (k H locs ls hW hW2 hS hl)
theorem t2_iload {i : Nat} {x : Int32} (C : tw_C G X cc own) (hd : decode cc pc = .ok (.iload i, 2)) (j : Nat) (hj : L[j]? = some (i, .int x)) (k : T2 G GM X Sc Sm L (pc + 2) (.int x :: st)) : T2 G GM X Sc Sm L pc (st) := fun H locs ls hW hW2 hS hl => lv_iload C.1 C.2.1 hd (lv_at hl j hj) (k H locs ls hW hW2 hS hl)
theorem t2_istore_n {x : Int32} {nL fr lo : Nat} {k : Fin 4} {i : Nat} (C : tw_C G X cc own) (N : tw_N X nL fr lo) (hd : decode cc pc = .ok (.istore_n k, 1)) (hi : (k : Nat) = i) (hn : i < nL) (hl' : (i, Value.int x) :: L.filter (fun q => !(q.1 == i) && !(q.1 + 1 == i && q.2.category == 2)) = L') (k' : T2 G GM X Sc Sm L' (pc + 1) st) : T2 G GM X Sc Sm L pc (.int x :: st) := fun H locs ls hW hW2 hS hl => lv_istore_n C.1 C.2.1 hd hi hl (by rw [N.1]; exact hn) hl' (fun ls' hl2 => k' H locs ls' hW hW2 hS hl2)
theorem t2_istore {x : Int32} {nL fr lo : Nat} {i : Nat} (C : tw_C G X cc own) (N : tw_N X nL fr lo) (hd : decode cc pc = .ok (.istore i, 2)) (hn : i < nL) (hl' : (i, Value.int x) :: L.filter (fun q => !(q.1 == i) && !(q.1 + 1 == i && q.2.category == 2)) = L') (k' : T2 G GM X Sc Sm L' (pc + 2) st) : T2 G GM X Sc Sm L pc (.int x :: st) := fun H locs ls hW hW2 hS hl => lv_istore C.1 C.2.1 hd hl (by rw [N.1]; exact hn) hl' (fun ls' hl2 => k' H locs ls' hW hW2 hS hl2)
theorem t2_aload_n {k : Fin 4} {x : Nat} (C : tw_C G X cc own) (hd : decode cc pc = .ok (.aload_n k, 1)) (j : Nat) (hj : L[j]? = some ((k : Nat), .ref x)) (k : T2 G GM X Sc Sm L (pc + 1) (.ref x :: st)) : T2 G GM X Sc Sm L pc (st) := fun H locs ls hW hW2 hS hl => lv_aload_n C.1 C.2.1 hd rfl (lv_at hl j hj) (k H locs ls hW hW2 hS hl)
theorem t2_aload {i : Nat} {x : Nat} (C : tw_C G X cc own) (hd : decode cc pc = .ok (.aload i, 2)) (j : Nat) (hj : L[j]? = some (i, .ref x)) (k : T2 G GM X Sc Sm L (pc + 2) (.ref x :: st)) : T2 G GM X Sc Sm L pc (st) := fun H locs ls hW hW2 hS hl => lv_aload C.1 C.2.1 hd (lv_at hl j hj) (k H locs ls hW hW2 hS hl)
theorem t2_astore_n {x : Nat} {nL fr lo : Nat} {k : Fin 4} {i : Nat} (C : tw_C G X cc own) (N : tw_N X nL fr lo) (hd : decode cc pc = .ok (.astore_n k, 1)) (hi : (k : Nat) = i) (hn : i < nL) (hl' : (i, Value.ref x) :: L.filter (fun q => !(q.1 == i) && !(q.1 + 1 == i && q.2.category == 2)) = L') (k' : T2 G GM X Sc Sm L' (pc + 1) st) : T2 G GM X Sc Sm L pc (.ref x :: st) := fun H locs ls hW hW2 hS hl => lv_astore_n C.1 C.2.1 hd hi hl (by rw [N.1]; exact hn) hl' (fun ls' hl2 => k' H locs ls' hW hW2 hS hl2)
theorem t2_astore {x : Nat} {nL fr lo : Nat} {i : Nat} (C : tw_C G X cc own) (N : tw_N X nL fr lo) (hd : decode cc pc = .ok (.astore i, 2)) (hn : i < nL) (hl' : (i, Value.ref x) :: L.filter (fun q => !(q.1 == i) && !(q.1 + 1 == i && q.2.category == 2)) = L') (k' : T2 G GM X Sc Sm L' (pc + 2) st) : T2 G GM X Sc Sm L pc (.ref x :: st) := fun H locs ls hW hW2 hS hl => lv_astore C.1 C.2.1 hd hl (by rw [N.1]; exact hn) hl' (fun ls' hl2 => k' H locs ls' hW hW2 hS hl2)
theorem t2_iinc {i k nL fr lo : Nat} {n : Int} {x v : Int32} (C : tw_C G X cc own) (N : tw_N X nL fr lo) (hd : decode cc pc = .ok (.iinc i n, 3)) (hk : L[k]? = some (i, .int x)) (hv : x + Int32.ofInt n = v) (hn : i < nL) (hl' : (i, Value.int v) :: L.filter (fun q => !(q.1 == i) && !(q.1 + 1 == i && q.2.category == 2)) = L') (k' : T2 G GM X Sc Sm L' (pc + 3) st) : T2 G GM X Sc Sm L pc st := fun H locs ls hW hW2 hS hl => lv_iinc C.1 C.2.1 hd hl hk hv (by rw [N.1]; exact hn) hl' (fun ls' hl2 => k' H locs ls' hW hW2 hS hl2)
theorem t2_iadd {x y v : Int32} (C : tw_C G X cc own) (hd : decode cc pc = .ok (.iadd, 1)) (hv : x + y = v) (k : T2 G GM X Sc Sm L (pc + 1) (.int v :: st)) : T2 G GM X Sc Sm L pc (.int y :: .int x :: st) := fun H locs ls hW hW2 hS hl => lv_iadd C.1 C.2.1 hd (by rw [hv]; exact k H locs ls hW hW2 hS hl)
theorem t2_isub {x y v : Int32} (C : tw_C G X cc own) (hd : decode cc pc = .ok (.isub, 1)) (hv : x - y = v) (k : T2 G GM X Sc Sm L (pc + 1) (.int v :: st)) : T2 G GM X Sc Sm L pc (.int y :: .int x :: st) := fun H locs ls hW hW2 hS hl => lv_isub C.1 C.2.1 hd (by rw [hv]; exact k H locs ls hW hW2 hS hl)
theorem t2_iand {x y v : Int32} (C : tw_C G X cc own) (hd : decode cc pc = .ok (.iand, 1)) (hv : x &&& y = v) (k : T2 G GM X Sc Sm L (pc + 1) (.int v :: st)) : T2 G GM X Sc Sm L pc (.int y :: .int x :: st) := fun H locs ls hW hW2 hS hl => lv_iand C.1 C.2.1 hd (by rw [hv]; exact k H locs ls hW hW2 hS hl)
theorem t2_ior {x y v : Int32} (C : tw_C G X cc own) (hd : decode cc pc = .ok (.ior, 1)) (hv : x ||| y = v) (k : T2 G GM X Sc Sm L (pc + 1) (.int v :: st)) : T2 G GM X Sc Sm L pc (.int y :: .int x :: st) := fun H locs ls hW hW2 hS hl => lv_ior C.1 C.2.1 hd (by rw [hv]; exact k H locs ls hW hW2 hS hl)
theorem t2_land {x y v : Int64} (C : tw_C G X cc own) (hd : decode cc pc = .ok (.land, 1)) (hv : x &&& y = v) (k : T2 G GM X Sc Sm L (pc + 1) (.long v :: st)) : T2 G GM X Sc Sm L pc (.long y :: .long x :: st) := fun H locs ls hW hW2 hS hl => lv_land C.1 C.2.1 hd (by rw [hv]; exact k H locs ls hW hW2 hS hl)
theorem t2_lor {x y v : Int64} (C : tw_C G X cc own) (hd : decode cc pc = .ok (.lor, 1)) (hv : x ||| y = v) (k : T2 G GM X Sc Sm L (pc + 1) (.long v :: st)) : T2 G GM X Sc Sm L pc (.long y :: .long x :: st) := fun H locs ls hW hW2 hS hl => lv_lor C.1 C.2.1 hd (by rw [hv]; exact k H locs ls hW hW2 hS hl)
theorem t2_lshl {x v : Int64} {y : Int32} (C : tw_C G X cc own) (hd : decode cc pc = .ok (.lshl, 1)) (hv : x <<< (y.toInt64 &&& 63) = v) (k : T2 G GM X Sc Sm L (pc + 1) (.long v :: st)) : T2 G GM X Sc Sm L pc (.int y :: .long x :: st) := fun H locs ls hW hW2 hS hl => lv_lshl C.1 C.2.1 hd hv (k H locs ls hW hW2 hS hl)
theorem t2_i2l {x : Int32} {v : Int64} (C : tw_C G X cc own) (hd : decode cc pc = .ok (.i2l, 1)) (hv : x.toInt64 = v) (k : T2 G GM X Sc Sm L (pc + 1) (.long v :: st)) : T2 G GM X Sc Sm L pc (.int x :: st) := fun H locs ls hW hW2 hS hl => lv_i2l C.1 C.2.1 hd hv (k H locs ls hW hW2 hS hl)
theorem t2_if_eq {x : Int32} {off : Int} {tgt : Nat} (C : tw_C G X cc own) (hd : decode cc pc = .ok (.ifCond .eq off, 3)) (ht : (pc : Int) + off = (tgt : Int)) (kt : x = 0 → T2 G GM X Sc Sm L tgt st) (kf : ¬ x = 0 → T2 G GM X Sc Sm L (pc + 3) st) : T2 G GM X Sc Sm L pc (.int x :: st) := fun H locs ls hW hW2 hS hl => lv_if_eq C.1 C.2.1 hd ht (fun c => kt c H locs ls hW hW2 hS hl) (fun c => kf c H locs ls hW hW2 hS hl)
theorem t2_icmp_eq {x y : Int32} {off : Int} {tgt : Nat} (C : tw_C G X cc own) (hd : decode cc pc = .ok (.if_icmp .eq off, 3)) (ht : (pc : Int) + off = (tgt : Int)) (kt : x = y → T2 G GM X Sc Sm L tgt st) (kf : ¬ x = y → T2 G GM X Sc Sm L (pc + 3) st) : T2 G GM X Sc Sm L pc (.int y :: .int x :: st) := fun H locs ls hW hW2 hS hl => lv_icmp_eq C.1 C.2.1 hd ht (fun c => kt c H locs ls hW hW2 hS hl) (fun c => kf c H locs ls hW hW2 hS hl)
theorem t2_if_ne {x : Int32} {off : Int} {tgt : Nat} (C : tw_C G X cc own) (hd : decode cc pc = .ok (.ifCond .ne off, 3)) (ht : (pc : Int) + off = (tgt : Int)) (kt : ¬ x = 0 → T2 G GM X Sc Sm L tgt st) (kf : x = 0 → T2 G GM X Sc Sm L (pc + 3) st) : T2 G GM X Sc Sm L pc (.int x :: st) := fun H locs ls hW hW2 hS hl => lv_if_ne C.1 C.2.1 hd ht (fun c => kt c H locs ls hW hW2 hS hl) (fun c => kf c H locs ls hW hW2 hS hl)
theorem t2_icmp_ne {x y : Int32} {off : Int} {tgt : Nat} (C : tw_C G X cc own) (hd : decode cc pc = .ok (.if_icmp .ne off, 3)) (ht : (pc : Int) + off = (tgt : Int)) (kt : ¬ x = y → T2 G GM X Sc Sm L tgt st) (kf : x = y → T2 G GM X Sc Sm L (pc + 3) st) : T2 G GM X Sc Sm L pc (.int y :: .int x :: st) := fun H locs ls hW hW2 hS hl => lv_icmp_ne C.1 C.2.1 hd ht (fun c => kt c H locs ls hW hW2 hS hl) (fun c => kf c H locs ls hW hW2 hS hl)
theorem t2_icmp_gt {x y : Int32} {off : Int} {tgt : Nat} (C : tw_C G X cc own) (hd : decode cc pc = .ok (.if_icmp .gt off, 3)) (ht : (pc : Int) + off = (tgt : Int)) (kt : y < x → T2 G GM X Sc Sm L tgt st) (kf : ¬ y < x → T2 G GM X Sc Sm L (pc + 3) st) : T2 G GM X Sc Sm L pc (.int y :: .int x :: st) := fun H locs ls hW hW2 hS hl => lv_icmp_gt C.1 C.2.1 hd ht (fun c => kt c H locs ls hW hW2 hS hl) (fun c => kf c H locs ls hW hW2 hS hl)
theorem t2_icmp_le {x y : Int32} {off : Int} {tgt : Nat} (C : tw_C G X cc own) (hd : decode cc pc = .ok (.if_icmp .le off, 3)) (ht : (pc : Int) + off = (tgt : Int)) (kt : x ≤ y → T2 G GM X Sc Sm L tgt st) (kf : ¬ x ≤ y → T2 G GM X Sc Sm L (pc + 3) st) : T2 G GM X Sc Sm L pc (.int y :: .int x :: st) := fun H locs ls hW hW2 hS hl => lv_icmp_le C.1 C.2.1 hd ht (fun c => kt c H locs ls hW hW2 hS hl) (fun c => kf c H locs ls hW hW2 hS hl)
theorem t2_goto {off : Int} {tgt : Nat} (C : tw_C G X cc own) (hd : decode cc pc = .ok (.goto off, 3)) (ht : (pc : Int) + off = (tgt : Int)) (k : T2 G GM X Sc Sm L tgt st) : T2 G GM X Sc Sm L pc st := fun H locs ls hW hW2 hS hl => lv_goto C.1 C.2.1 hd ht (k H locs ls hW hW2 hS hl)
theorem t2_tabOut {dflt lo hi : Int} {offs : Array Int} {len : Nat} {x : Int32} {tgt : Nat} (C : tw_C G X cc own) (hd : decode cc pc = .ok (.tableswitch dflt lo hi offs, len)) (h : x.toInt < lo ∨ hi < x.toInt) (ht : (pc : Int) + dflt = (tgt : Int)) (k : T2 G GM X Sc Sm L tgt st) : T2 G GM X Sc Sm L pc (.int x :: st) := fun H locs ls hW hW2 hS hl => lv_tableOut C.1 C.2.1 hd h ht (k H locs ls hW hW2 hS hl)
theorem t2_tabIn {dflt lo hi : Int} {offs : Array Int} {len : Nat} {x : Int32} {off : Int} {tgt : Nat} (C : tw_C G X cc own) (hd : decode cc pc = .ok (.tableswitch dflt lo hi offs, len)) (h1 : ¬ x.toInt < lo) (h2 : ¬ hi < x.toInt) (ho : offs[(x.toInt - lo).toNat]? = some off) (ht : (pc : Int) + off = (tgt : Int)) (k : T2 G GM X Sc Sm L tgt st) : T2 G GM X Sc Sm L pc (.int x :: st) := fun H locs ls hW hW2 hS hl => lv_tableIn C.1 C.2.1 hd h1 h2 ho ht (k H locs ls hW hW2 hS hl)
theorem t2_after {α : Type} {inj : α → Option Value} {post : α → tw_S → Prop} {G1 : tw_G} {H : Heap} {locs : List Loc} {ls : Array Slot} {a : Array Value} {rest : List Value} (C : tw_C G1 X cc own) (hS : va_S (tx_A X) (tx_s X).heap H locs)
    (hr : va_Run (tx_p X) (tw_l G1) (tx_e X) (tx_R X) (tx_s X) (tx_m X) (tx_a X) (tx_b X) (tx_t X) (tx_c X) H locs (tx_k X) (tx_z X) 0 0 (F0 (tx_m X) pc ls st) rest (tw_Qc G1 H.size inj post a) (tw_AA G1 H.size))
    (kk : ∀ (v : α) (S' : tw_S) (H1 : Heap) (locs1 : List Loc), post v S' → tw_W G1 S' H1 → (∀ q, q < H.size → ¬ tw_AA G1 H.size q → H1[q]? = H[q]?) → va_S (tx_A X) (tx_s X).heap H1 locs1 → W (tx_p X) (tw_l G1) (tx_e X) (tx_R X) (tx_s X) (tx_m X) (tx_a X) (tx_b X) (tx_t X) (tx_c X) H1 locs1 (tx_k X) (tx_z X) (tx_Q X) (F0 (tx_m X) (pc + 3) ls ((inj v).toList ++ rest))) : tx_W G1 X H locs pc ls st := by
  intro T hT Xs
  obtain ⟨v, st₀, t, T', L1, h0, X', hL1, e1, e2, ⟨⟨x, S', hv, hpo, hWt⟩, hz, hk⟩, stp⟩ := hr T hT Xs
  cases hv
  rw [h0] at hz hk
  obtain ⟨t2, a1, b1⟩ := kk x S' T'.heap (locs ++ L1) hpo (by rw [e1]; exact hWt) (fun q h1 h2 => by rw [e1]; exact hk q h1 h2)
    ⟨Nat.le_trans hS.1 (by rw [e1]; exact hz), fun q h1 h2 => by
      rw [e1, hk q (Nat.lt_of_lt_of_le h1 hS.1) (fun z => h2 (tw_AAs C hS.1 q z))]
      exact hS.2.1 q h1 h2, fun q hq => by
      rcases List.mem_append.mp hq with h | h
      · exact hS.2.2 q h
      · exact tw_AAs C hS.1 _ (hL1 q h)⟩ T' rfl X'
  exact ⟨t2, stp t2 a1, b1⟩
theorem t2_callC {α : Type} {inj : α → Option Value} {post : α → tw_S → Prop} {ret : Option FieldType} {y : MethodName} {bytes : ByteArray} {maxL fr lo nL fr0 lo0 idx n r ci N : Nat} {cs : List Nat} {T : u_T} {As rest : List Value} (hdj : ∀ q, q ∈ tw_LA GM → q ∉ tw_LA G) (hll : tw_l GM = tw_l G) (C : tw_C G X cc own) (NN : tw_N X nL fr0 lo0) (hM : tw_M G y bytes maxL ret fr lo (.ref (tw_ad G r) :: As) Sc inj post) (hm : tw_mV y bytes maxL ret n) (hw : Cond.methodLink own idx y ∈ lw_g) (hAs : As.length = n) (hP : tw_P G r) (hsh : tw_sh r = some (ci, cs)) (hcl : vwCl[ci]? = some (y.cls, T, N)) (hR : fr + 1 ≤ fr0 ∧ 8 + (maxL + 11) + lo ≤ lo0) (hst : st = As.reverse ++ .ref (tw_ad G r) :: rest) (hrm : (rest.map fun v => v.category).sum ≤ 8) (hd : decode cc pc = .ok (.invokevirtual idx, 3))
    (kk : ∀ (v : α) (S' : tw_S), post v S' → T2 G GM X S' Sm L (pc + 3) ((inj v).toList ++ rest)) : T2 G GM X Sc Sm L pc st := by
  intro H locs ls hWc hWm hS hl
  have hW := hWc
  have hW0 := hW
  obtain ⟨hwf, f, hPf, hen⟩ := hW
  have he := hen r hP
  simp only [tw_en, hsh] at he
  obtain ⟨q0, hq0⟩ := tw_at (f := f) C hP
  rw [he] at hq0
  have hcw : CallW (tx_R X) (tx_s X) (tx_a X) own y.cls idx y bytes maxL ret (Cond.code y bytes maxL ret :: lw_g) ({ frames := fr, cells := 0, slots := 0, locals := lo }) 0 0 n :=
    ⟨⟨rfl, rfl, by rw [NN.2.1]; exact hR.1, by rw [NN.2.2.1]; exact hR.2, tw_words C hm.2.2.2.1, List.mem_cons_self, C.ts _ hm.2.2.2.1, C.ts _ hm.2.2.1, ⟨hm.2.2.2.2.1, hm.2.2.2.2.2.1⟩, fun sig h => by
      have h2 := hm.2.2.2.2.2.2
      rw [h] at h2
      exact (Option.some.inj h2).symm, C.ts _ hw⟩, C.ts _ hm.1, C.ts _ hm.2.1⟩
  have hp : PreV (tx_s X) H y.cls (tw_ad G r) (tw_Pc G H.size (.ref (tw_ad G r) :: As) Sc) As := ⟨tw_blind, va_recv C.E.1 (show va_P (tw_D G) vwCl (([] : va_W) ++ va_pl (tw_LA G) f) H from hPf) hcl hq0, fun U hU hWm => ⟨rfl, tw_pre C hW0 hS hU hWm⟩⟩
  exact t2_after C hS (va_runV (n := n) ⟨C.1, C.2.1, C.2.2.1, C.ow, C.ts⟩ (hM H.size) hcw hp rfl hAs hl.1 hst (lv_room hrm) hd ⟨NN.2.2.2.1, NN.2.2.2.2⟩) (fun v S' H1 locs1 hpo hW1 hfr hS1 => kk v S' hpo H1 locs1 ls hW1 (tw_W_kept hWm (fun q hq hlt => hfr q hlt (fun h => h.elim (fun g => hdj q hq g) (fun g => absurd hlt (Nat.not_lt.mpr g))))) hS1 hl)
theorem t2_callM {α : Type} {inj : α → Option Value} {post : α → tw_S → Prop} {ret : Option FieldType} {y : MethodName} {bytes : ByteArray} {maxL fr lo nL fr0 lo0 idx n r ci N : Nat} {cs : List Nat} {T : u_T} {As rest : List Value} (hdj : ∀ q, q ∈ tw_LA GM → q ∉ tw_LA G) (hll : tw_l GM = tw_l G) (C : tw_C GM X cc own) (NN : tw_N X nL fr0 lo0) (hM : tw_M GM y bytes maxL ret fr lo (.ref (tw_ad GM r) :: As) Sm inj post) (hm : tw_mV y bytes maxL ret n) (hw : Cond.methodLink own idx y ∈ lw_g) (hAs : As.length = n) (hP : tw_P GM r) (hsh : tw_sh r = some (ci, cs)) (hcl : vwCl[ci]? = some (y.cls, T, N)) (hR : fr + 1 ≤ fr0 ∧ 8 + (maxL + 11) + lo ≤ lo0) (hst : st = As.reverse ++ .ref (tw_ad GM r) :: rest) (hrm : (rest.map fun v => v.category).sum ≤ 8) (hd : decode cc pc = .ok (.invokevirtual idx, 3))
    (kk : ∀ (v : α) (S' : tw_S), post v S' → T2 G GM X Sc S' L (pc + 3) ((inj v).toList ++ rest)) : T2 G GM X Sc Sm L pc st := by
  intro H locs ls hWc hWm hS hl
  have hW := hWm
  have hW0 := hW
  obtain ⟨hwf, f, hPf, hen⟩ := hW
  have he := hen r hP
  simp only [tw_en, hsh] at he
  obtain ⟨q0, hq0⟩ := tw_at (f := f) C hP
  rw [he] at hq0
  have hcw : CallW (tx_R X) (tx_s X) (tx_a X) own y.cls idx y bytes maxL ret (Cond.code y bytes maxL ret :: lw_g) ({ frames := fr, cells := 0, slots := 0, locals := lo }) 0 0 n :=
    ⟨⟨rfl, rfl, by rw [NN.2.1]; exact hR.1, by rw [NN.2.2.1]; exact hR.2, tw_words C hm.2.2.2.1, List.mem_cons_self, C.ts _ hm.2.2.2.1, C.ts _ hm.2.2.1, ⟨hm.2.2.2.2.1, hm.2.2.2.2.2.1⟩, fun sig h => by
      have h2 := hm.2.2.2.2.2.2
      rw [h] at h2
      exact (Option.some.inj h2).symm, C.ts _ hw⟩, C.ts _ hm.1, C.ts _ hm.2.1⟩
  have hp : PreV (tx_s X) H y.cls (tw_ad GM r) (tw_Pc GM H.size (.ref (tw_ad GM r) :: As) Sm) As := ⟨tw_blind, va_recv C.E.1 (show va_P (tw_D GM) vwCl (([] : va_W) ++ va_pl (tw_LA GM) f) H from hPf) hcl hq0, fun U hU hWm => ⟨rfl, tw_pre C hW0 hS hU hWm⟩⟩
  unfold tx_W
  rw [← hll]
  refine t2_after C hS (va_runV (n := n) ⟨C.1, C.2.1, C.2.2.1, C.ow, C.ts⟩ (hM H.size) hcw hp rfl hAs hl.1 hst (lv_room hrm) hd ⟨NN.2.2.2.1, NN.2.2.2.2⟩) (fun v S' H1 locs1 hpo hW1 hfr hS1 => ?_)
  have h9 := kk v S' hpo H1 locs1 ls (tw_W_kept hWc (fun q hq hlt => hfr q hlt (fun h => h.elim (fun g => hdj q g hq) (fun g => absurd hlt (Nat.not_lt.mpr g))))) hW1 hS1 hl
  unfold tx_W at h9
  rw [← hll] at h9
  exact h9
end T2S
