/-! the law's beginning -/
theorem st_after {P : Heap → Prop} {a0 : Nat} {Qa : State → Outcome → State → Prop} {p : Program} {l : Launch} {e : Env} {R : Room} {s : State} {m : MethodId} {args : Array Value} {below : List Frame} {meth : Method} {c : Code} {A : Nat → Prop} {H : Heap} {locs : List Loc} {k z mc ms pc : Nat} {ls : Array Slot} {st rest : List Value} {Q : State → Prop} (hA : ∀ q, a0 ≤ q → A q) (hS : va_S A s.heap H locs) (hQ : ∀ st0 o t, Qa st0 o t → (o = .returned none ∧ P t.heap) ∧ va_F (fun q => a0 ≤ q) st0 t)
    (hr : va_Run p l e R s m args below meth c H locs k z mc ms (F0 m pc ls st) rest Qa (fun q => a0 ≤ q))
    (kk : ∀ (H1 : Heap) (locs1 : List Loc), P H1 → va_S A s.heap H1 locs1 → (∀ q, q < H.size → q < a0 → H1[q]? = H[q]?) → W p l e R s m args below meth c H1 locs1 (k + mc) (z + ms) Q (F0 m (pc + 3) ls rest)) : W p l e R s m args below meth c H locs k z Q (F0 m pc ls st) := by
  intro T hT Xs
  obtain ⟨v, st₀, t, T', L1, h0, X', hL1, e1, e2, hq, stp⟩ := hr T hT Xs
  obtain ⟨⟨hv, hP⟩, hz, hk⟩ := hQ _ _ _ hq
  cases hv
  rw [h0] at hz hk
  obtain ⟨t2, a1, b1⟩ := kk T'.heap (locs ++ L1) (by rw [e1]; exact hP)
    ⟨Nat.le_trans hS.1 (by rw [e1]; exact hz), fun q h1 h2 => by
      rw [e1, hk q (Nat.lt_of_lt_of_le h1 hS.1) (fun z => h2 (hA q z))]
      exact hS.2.1 q h1 h2, fun q hq => by
      rcases List.mem_append.mp hq with h | h
      · exact hS.2.2 q h
      · exact hA _ (hL1 q h)⟩ (fun q h1 h2 => by rw [e1]; exact hk q h1 (Nat.not_le.mpr h2)) T' rfl X'
  exact ⟨t2, stp t2 a1, b1⟩
theorem st_gin {y : MethodName} {bytes : ByteArray} {maxL : Nat} (hc : Cond.code y bytes maxL none ∈ lw_g) {args : Array Value} {s : State} (hts : ∀ w ∈ lw_g, w.before args s = true) : ∀ w ∈ (Cond.code y bytes maxL none :: lw_g), ∀ (a' : Array Value) (U : State), s.WarmedH U.vm → w.before a' U = true := by
  refine pay_in (big := lw_g) hts (fun w hw => ?_)
  have hm : w ∈ lw_g := by
    rcases List.mem_cons.mp hw with h | h
    · rw [h]; exact hc
    · exact h
  exact ⟨hm, good_of_word (wd_good w hm)⟩
/-- the classes and the array classes -/
theorem st_K {args : Array Value} {s : State} (hts : ∀ w ∈ lw_g, w.before args s = true) (h7 : (Cond.arrayOver (.object RX7)).before args s = true) (h2 : (Cond.arrayOver (.object RX2)).before args s = true) : ∃ (D : va_G) (cy : Nat → ClassId), va_K D vwCl [(cy 0, .int), (cy 1, .boolean), (cy 2, .long), (cy 4, .object "ShortFrames$Row"), (cy 5, .object "ShortFrames$Heap")] s := by
  obtain ⟨c0, i0, u0⟩ := u_known (n := 3) hts fc_X0.2.1 (hts _ wd_36)
  obtain ⟨c1, i1, u1⟩ := u_known (n := 2) hts fc_X1.2.1 (hts _ wd_32)
  obtain ⟨c2, i2, u2⟩ := u_known (n := 8) hts fc_X2.2.1 (hts _ wd_97)
  obtain ⟨c3, i3, u3⟩ := u_known (n := 4) hts fc_X3.2.1 (hts _ wd_15)
  obtain ⟨c4, i4, u4⟩ := u_known (n := 7) hts fc_X6.2.1 (hts _ wd_40)
  obtain ⟨c5, i5, u5⟩ := u_known (n := 2) hts fc_X7.2.1 (hts _ wd_24)
  obtain ⟨c6, i6, u6⟩ := u_known (n := 1) hts fc_X8.2.1 (hts _ wd_18)
  obtain ⟨c7, i7, u7⟩ := u_known (n := 10) hts fc_X9.2.1 (hts _ wd_21)
  obtain ⟨c8, i8, u8⟩ := u_known (n := 9) hts fc_X10.2.1 (hts _ wd_2)
  obtain ⟨a0, k0, m0, x0, y0, z0⟩ := Cond.arrayClass_spec (hts _ wd_7)
  obtain ⟨a1, k1, m1, x1, y1, z1⟩ := Cond.arrayClass_spec (hts _ wd_47)
  obtain ⟨a2, k2, m2, x2, y2, z2⟩ := Cond.arrayClass_spec (hts _ wd_49)
  obtain ⟨m4, a4, k4, v4, -, y4, z4, x4⟩ := Cond.arrayOver_spec h7
  obtain ⟨m5, a5, k5, v5, -, y5, z5, x5⟩ := Cond.arrayOver_spec h2
  refine ⟨(fun j => [c0, c1, c2, c3, c4, c5, c6, c7, c8].getD j c0, fun j => [i0, i1, i2, i3, i4, i5, i6, i7, i8].getD j i0), fun j => [a0, a1, a2, a0, a4, a5].getD j a0, fun c q hq => ?_, fun k q hk => ?_⟩
  · match c, hq with
    | 0, h => have e := Option.some.inj (show some (RX0, TX0, 3) = some q from h); subst e; exact u0
    | 1, h => have e := Option.some.inj (show some (RX1, TX1, 2) = some q from h); subst e; exact u1
    | 2, h => have e := Option.some.inj (show some (RX2, TX2, 8) = some q from h); subst e; exact u2
    | 3, h => have e := Option.some.inj (show some (RX3, TX3, 4) = some q from h); subst e; exact u3
    | 4, h => have e := Option.some.inj (show some (RX6, TX6, 7) = some q from h); subst e; exact u4
    | 5, h => have e := Option.some.inj (show some (RX7, TX7, 2) = some q from h); subst e; exact u5
    | 6, h => have e := Option.some.inj (show some (RX8, TX8, 1) = some q from h); subst e; exact u6
    | 7, h => have e := Option.some.inj (show some (RX9, TX9, 10) = some q from h); subst e; exact u7
    | 8, h => have e := Option.some.inj (show some (RX10, TX10, 9) = some q from h); subst e; exact u8
    | n + 9, h => exact absurd (show (none : Option vw_C) = some q from h) (by simp)
  · match k, hk with
    | 0, h => have e := Option.some.inj (show some (a0, FieldType.int) = some q from h); subst e; exact ⟨fun n z => ⟨fun k h => (by cases h), k0, y0, m0, z0⟩, x0⟩
    | 1, h => have e := Option.some.inj (show some (a1, FieldType.boolean) = some q from h); subst e; exact ⟨fun n z => ⟨fun k h => (by cases h), k1, y1, m1, z1⟩, x1⟩
    | 2, h => have e := Option.some.inj (show some (a2, FieldType.long) = some q from h); subst e; exact ⟨fun n z => ⟨fun k h => (by cases h), k2, y2, m2, z2⟩, x2⟩
    | 3, h => have e := Option.some.inj (show some (a4, FieldType.object "ShortFrames$Row") = some q from h); subst e; exact ⟨fun n z => ⟨fun k h => (by cases h), k4, y4, m4, z4⟩, k4, m4, y4, z4, v4, x4⟩
    | 4, h => have e := Option.some.inj (show some (a5, FieldType.object "ShortFrames$Heap") = some q from h); subst e; exact ⟨fun n z => ⟨fun k h => (by cases h), k5, y5, m5, z5⟩, k5, m5, y5, z5, v5, x5⟩
    | n + 5, h => exact absurd (show (none : Option (ClassId × FieldType)) = some q from h) (by simp)
theorem st_NW {args : Array Value} {s : State} (hts : ∀ w ∈ lw_tbl, w.before args s = true) : tw_NW s := ⟨va_Nw.of rfl (hts _ (by decide +kernel)), va_Nw.of rfl (hts _ (by decide +kernel)), va_Nw.of rfl (hts _ (by decide +kernel)), va_Nw.of rfl (hts _ (by decide +kernel)), va_Nw.of rfl (hts _ (by decide +kernel)), va_Nw.of rfl (hts _ (by decide +kernel)), va_Nw.of rfl (hts _ (by decide +kernel))⟩
/-- the table of bytes -/
theorem st_T {b : Nat} {s : State} (hts : ∀ w ∈ lw_tbl, w.before #[Value.ref b] s = true) (hgv : (Jvm.Cond.and given_1 narrow_1).before #[Value.ref b] s = true) : ∃ t0 : Nat, va_Z "ShortFrames$Mode" "BYTES" "[I" (.ref t0) (fun q => s.heap.size ≤ q) s s.heap ∧ va_T .int t0 12 tw_tab (fun q => s.heap.size ≤ q) s s.heap := by
  have fl := flat_of_before _ hgv
  have hA : ∀ a : Nat, a < s.heap.size → ¬ (fun q => s.heap.size ≤ q) a := fun a h => Nat.not_le.mpr h
  obtain ⟨t, ht, hT⟩ := va_Tof (args := #[Value.ref b]) (s := s) (tm := Term.static "ShortFrames$Mode" "BYTES" "[I") (ty := .int) (N := 12) (f := tw_tab) (by decide) (fl _ (by decide +kernel)) (va_eqt (fl (Cond.eq (Term.length (Term.static "ShortFrames$Mode" "BYTES" "[I")) (Term.int (12 : Int32))) (by decide +kernel))) (fun j hj => match j, hj with
    | 0, _ => va_eqt (z := (16 : Int32)) (fl (Cond.eq (Term.elem (Term.static "ShortFrames$Mode" "BYTES" "[I") (Term.int (0 : Int32))) (Term.int (16 : Int32))) (by decide +kernel))
    | 1, _ => va_eqt (z := (8 : Int32)) (fl (Cond.eq (Term.elem (Term.static "ShortFrames$Mode" "BYTES" "[I") (Term.int (1 : Int32))) (Term.int (8 : Int32))) (by decide +kernel))
    | 2, _ => va_eqt (z := (2 : Int32)) (fl (Cond.eq (Term.elem (Term.static "ShortFrames$Mode" "BYTES" "[I") (Term.int (2 : Int32))) (Term.int (2 : Int32))) (by decide +kernel))
    | 3, _ => va_eqt (z := (0 : Int32)) (fl (Cond.eq (Term.elem (Term.static "ShortFrames$Mode" "BYTES" "[I") (Term.int (3 : Int32))) (Term.int (0 : Int32))) (by decide +kernel))
    | 4, _ => va_eqt (z := (0 : Int32)) (fl (Cond.eq (Term.elem (Term.static "ShortFrames$Mode" "BYTES" "[I") (Term.int (4 : Int32))) (Term.int (0 : Int32))) (by decide +kernel))
    | 5, _ => va_eqt (z := (8 : Int32)) (fl (Cond.eq (Term.elem (Term.static "ShortFrames$Mode" "BYTES" "[I") (Term.int (5 : Int32))) (Term.int (8 : Int32))) (by decide +kernel))
    | 6, _ => va_eqt (z := (2 : Int32)) (fl (Cond.eq (Term.elem (Term.static "ShortFrames$Mode" "BYTES" "[I") (Term.int (6 : Int32))) (Term.int (2 : Int32))) (by decide +kernel))
    | 7, _ => va_eqt (z := (0 : Int32)) (fl (Cond.eq (Term.elem (Term.static "ShortFrames$Mode" "BYTES" "[I") (Term.int (7 : Int32))) (Term.int (0 : Int32))) (by decide +kernel))
    | 8, _ => va_eqt (z := (16 : Int32)) (fl (Cond.eq (Term.elem (Term.static "ShortFrames$Mode" "BYTES" "[I") (Term.int (8 : Int32))) (Term.int (16 : Int32))) (by decide +kernel))
    | 9, _ => va_eqt (z := (6 : Int32)) (fl (Cond.eq (Term.elem (Term.static "ShortFrames$Mode" "BYTES" "[I") (Term.int (9 : Int32))) (Term.int (6 : Int32))) (by decide +kernel))
    | 10, _ => va_eqt (z := (4 : Int32)) (fl (Cond.eq (Term.elem (Term.static "ShortFrames$Mode" "BYTES" "[I") (Term.int (10 : Int32))) (Term.int (4 : Int32))) (by decide +kernel))
    | 11, _ => va_eqt (z := (1 : Int32)) (fl (Cond.eq (Term.elem (Term.static "ShortFrames$Mode" "BYTES" "[I") (Term.int (11 : Int32))) (Term.int (1 : Int32))) (by decide +kernel))
    | n + 12, h => absurd h (by omega)) hA
  exact ⟨t, va_Zref (hts _ (by decide +kernel)) (hts _ (by decide +kernel)) ht hA, hT⟩
theorem st_dj (l : Launch) (D : va_G) (cy : Nat → ClassId) (a0 : Nat) (t0 : Nat × Nat × Nat × (Nat → Int32)) : ∀ q, q ∈ tw_LA (gC l D cy (a0 + 114) t0) → q ∉ tw_LA (gC l D cy a0 t0) := fun q h h2 => by
  obtain ⟨i, -, rfl⟩ := List.mem_map.mp h
  obtain ⟨j, hj, e⟩ := List.mem_map.mp h2
  have hj := List.mem_range.mp hj
  have e : a0 + j = a0 + 114 + i := e
  omega
section GC
variable (l : Launch) (D : va_G) (cy : Nat → ClassId) (a0 : Nat) (t0 : Nat × Nat × Nat × (Nat → Int32))
theorem gC_D {A : Nat → Prop} (h : ∀ q, a0 ≤ q → A q) (f : Nat → va_E) : va_D A (va_pl (tw_LA (gC l D cy a0 t0)) f) := by
  have e : va_pl (tw_LA (gC l D cy a0 t0)) f = blk a0 (fun i => f (a0 + i)) 114 := by
    show ((List.range 114).map (fun i => a0 + i)).map (fun a => (a, f a)) = _
    rw [List.map_map]; rfl
  rw [e]; exact blk_D h
theorem gC_LA : ∀ r, tw_P (gC l D cy a0 t0) r → tw_ad (gC l D cy a0 t0) r ∈ tw_LA (gC l D cy a0 t0) := fun r h => List.mem_map.mpr ⟨lw_ix r, List.mem_range.mpr (lw_ix_lt r h), rfl⟩
theorem gC_inj : ∀ r r', tw_P (gC l D cy a0 t0) r → tw_P (gC l D cy a0 t0) r' → tw_ad (gC l D cy a0 t0) r = tw_ad (gC l D cy a0 t0) r' → r = r' := fun r r' h h' e => by
  have e2 : a0 + lw_ix r = a0 + lw_ix r' := e
  exact lw_ix_inj r h r' h' (by omega)
end GC
theorem lyB_cg {G G' : tw_G} (h : cN G = cN G') : ∀ k, lyB G k = lyB G' k
  | 0 => rfl
  | k + 1 => by
    have hk : lyK G = lyK G' := by unfold lyK; rw [h]
    have hb : bU G k = bU G' k := by unfold bU bV; rw [h, hk]
    unfold lyB
    rw [lyB_cg h k, hb]
theorem lyA_cg {G G' : tw_G} (h : cN G = cN G') : lyA G = lyA G' := by
  have ht : lyT G = lyT G' := by unfold lyT; rw [h]
  have hl : lyL G = lyL G' := by unfold lyL; rw [h]
  have hk : lyK G = lyK G' := by unfold lyK; rw [h]
  have hp : lyP G = lyP G' := by unfold lyP; rw [h]
  unfold lyA lyH
  rw [lyB_cg h, ht, hl, hk, hp, h]
def gz10 : Nat → va_E := fun _ => .inr (8, [.null, .null, .null, .null, .null, .null, .null, .null, .null])
theorem blk_1 {D : va_G} {a0 : Nat} {g : Nat → va_E} {H : Heap} (h : va_at D vwCl (a0, g 0) H) : va_P D vwCl (blk a0 g 1) H := by
  intro k q hk
  obtain ⟨hkn, rfl⟩ := blk_out hk
  have e : k = 0 := by omega
  subst e
  exact h
set_option maxRecDepth 20000 in
theorem whole_start {p : Program} {e : Env} {s : State} {m : MethodId} {below : List Frame} {meth : Method} {c : Code} (l : Launch) (hflags : l.flags = flags0) {b L : Nat} {xs : Nat → Int32} (hL : L ≤ 260) (C0 : lw_At p s m meth c b L xs) : W p l e room_1 s m #[Value.ref b] below meth c s.heap [] 0 0 (lw_Z below #[Value.ref b] s) (entryFrame m ([Value.ref b] : List Value).toArray 13) := by
  obtain ⟨hx, hb, hr, hml, hown, hts0, hX, hbl, hlocks, hgv⟩ := C0
  have hts : ∀ w ∈ lw_g, w.before #[Value.ref b] s = true := fun w hw => hts0 w (lw_gin hw)
  have h7 : (Cond.arrayOver (.object RX7)).before #[Value.ref b] s = true := hts0 _ (by decide +kernel)
  have h2 : (Cond.arrayOver (.object RX2)).before #[Value.ref b] s = true := hts0 _ (by decide +kernel)
  obtain ⟨D, cy, hK⟩ := st_K hts h7 h2
  have hV : tk_V s := ⟨st_NW hts0, va_AO.of h7, va_AO.of h2⟩
  obtain ⟨t0, hZ1, hT1⟩ := st_T hts0 hgv
  have hT2 : va_T .int b L (fun j => .int (xs j)) (fun q => s.heap.size ≤ q) s s.heap := by
    obtain ⟨scr, g1, g2, g3, g4, g5⟩ := hX
    exact ⟨scr, g1, g2, g3, Nat.le_of_eq g4.symm, by rw [g4], g5, Nat.not_le.mpr hbl⟩
  let tb : Nat × Nat × Nat × (Nat → Int32) := (t0, b, L, xs)
  generalize ha0 : s.heap.size = a0 at hZ1 hT1 hT2
  have hl := lv_entry [.ref b] (n := 13) (Nat.le_of_ble_eq_true rfl)
  rw [show lv_args 0 [.ref b] = [(0, .ref b)] from rfl] at hl
  rw [lg_entry_eq]
  generalize (lg_sl ([.ref b]) ++ List.replicate (13 - (lg_sl ([.ref b])).length) Slot.unset).toArray = ls at hl ⊢
  have hKn10 := hK.1 8 _ fc_X10.1
  -- the first object
  refine W.newcK hx hb hown (hts _ wd_1) (hts _ wd_2) (hts _ wd_3) rfl dL_law_0 (Nat.le_of_ble_eq_true rfl) (Nat.le_of_ble_eq_true rfl) hKn10.2.1 ha0 (fun H1 kC hkC e1 z1 o1 => ?_)
  have hP1 : va_P D vwCl (blk a0 gz10 1) H1 := blk_1 ⟨_, fc_X10.1, (u_born tyX10 hts fc_X10.2.1 hKn10 hkC e1 fc_X10.2.2.1).to df_X10⟩
  have hS1 : va_S (fun q => a0 ≤ q) s.heap H1 [] := ⟨by omega, fun x g1 g2 => o1 x (by omega), fun _ h => by cases h⟩
  clear e1
  refine lv_dup hx hb dL_law_3 rfl ?_
  have hM10 := n_X10 (gC l D cy a0 tb) a0 gz10 rfl
  have hcw10 : CallB room_1 s #[Value.ref b] RL 60 yX10_init cX10_init 4 none (Cond.code yX10_init cX10_init 4 none :: lw_g) ({ frames := 4, cells := 113, slots := 9695, locals := 75 }) 113 9695 0 ∧ yX10_init.name = "<init>" ∧ (Cond.instanceMethod yX10_init).before #[Value.ref b] s = true :=
    ⟨⟨rfl, rfl, Nat.le_of_ble_eq_true rfl, Nat.le_of_ble_eq_true rfl, st_gin ny_X10.1 hts, List.mem_cons_self, hts _ ny_X10.1, hts _ ny_X10.2.1, ⟨ny_X10.2.2.2.2.1, ny_X10.2.2.2.2.2.1⟩, fun sig h => by
      have h2 := ny_X10.2.2.2.2.2.2
      rw [h] at h2
      exact (Option.some.inj h2).symm, hts _ wd_8⟩, rfl, hts _ ny_X10.2.2.1⟩
  have hp10 : PreS s H1 (va_Pc (.ref (a0 + 0) :: []) (tk_B (gC l D cy a0 tb) a0 1 gz10)) (.ref (a0 + 0) :: []) := ⟨tk_blind, fun U hU hWm => ⟨rfl, by rw [hU]; exact z1, by rw [hU]; exact hP1, va_K.moved hWm.alike hK, tk_V_warm hWm hV⟩⟩
  refine st_after (P := fun H => H.size = a0 + 114 ∧ va_P D vwCl (blk a0 (g10 (gC l D cy a0 tb) a0 gz10) 114) H) (A := fun q => a0 ≤ q) (a0 := a0) (fun q h => h) hS1 (fun st0 o t h => ⟨⟨h.1.1, h.1.2⟩, h.2⟩) (va_runI (n := 0) (rest := [.ref (a0 + 0)]) ⟨hx, hb, hml, hown, hts⟩ hM10 hcw10 hp10 rfl rfl hl.1 rfl (lv_room (Nat.le_of_ble_eq_true rfl)) dL_law_4 ⟨Nat.le_of_ble_eq_true rfl, Nat.le_of_ble_eq_true rfl⟩) (fun H2 locs2 hPP hS2 _ => ?_)
  obtain ⟨z2, hP2⟩ := hPP
  have hWC2 := W_C l D cy a0 tb gz10 hP2
  clear hP1 hS1 hM10 hp10 hP2
  refine lv_astore_n (nL := 13) (lv := [(0, .ref b)]) (lv' := [(1, .ref (a0 + 0)), (0, .ref b)]) hx hb dL_law_7 rfl hl (by decide) rfl (fun ls hl => ?_)
  -- the second object
  refine W.newcK hx hb hown (hts _ wd_1) (hts _ wd_2) (hts _ wd_3) rfl dL_law_8 (Nat.le_of_ble_eq_true rfl) (Nat.le_of_ble_eq_true rfl) hKn10.2.1 z2 (fun H3 kC3 hkC3 e3 z3 o3 => ?_)
  have hP3 : va_P D vwCl (blk (a0 + 114) gz10 1) H3 := blk_1 ⟨_, fc_X10.1, (u_born tyX10 hts fc_X10.2.1 hKn10 hkC3 e3 fc_X10.2.2.1).to df_X10⟩
  have hS3 : va_S (fun q => a0 ≤ q) s.heap H3 locs2 := ⟨by have := hS2.1; omega, fun x g1 g2 => (o3 x (by have := hS2.1; omega)).trans (hS2.2.1 x g1 g2), hS2.2.2⟩
  have hWC3 : tw_W (gC l D cy a0 tb) S0 H3 := tw_W_kept hWC2 (fun q _ hlt => o3 q (z2 ▸ hlt))
  clear e3 hWC2
  refine lv_dup hx hb dL_law_11 rfl ?_
  have hM11 := n_X10 (gC l D cy (a0 + 114) tb) (a0 + 114) gz10 rfl
  have hnr : ∀ q, (fun q => a0 + 114 ≤ q) q → (fun q => a0 ≤ q) q := fun q h => Nat.le_trans (Nat.le_add_right _ _) h
  have hp11 : PreS s H3 (va_Pc (.ref (a0 + 114 + 0) :: []) (tk_B (gC l D cy (a0 + 114) tb) (a0 + 114) 1 gz10)) (.ref (a0 + 114 + 0) :: []) := ⟨tk_blind, fun U hU hWm => ⟨rfl, by rw [hU]; exact z3, by rw [hU]; exact hP3, va_K.moved hWm.alike hK, tk_V_warm hWm hV⟩⟩
  refine st_after (P := fun H => H.size = a0 + 114 + 114 ∧ va_P D vwCl (blk (a0 + 114) (g10 (gC l D cy (a0 + 114) tb) (a0 + 114) gz10) 114) H) (A := fun q => a0 ≤ q) (a0 := a0 + 114) hnr hS3 (fun st0 o t h => ⟨⟨h.1.1, h.1.2⟩, h.2⟩) (va_runI (n := 0) (rest := [.ref (a0 + 114 + 0)]) ⟨hx, hb, hml, hown, hts⟩ hM11 hcw10 hp11 rfl rfl hl.1 rfl (lv_room (Nat.le_of_ble_eq_true rfl)) dL_law_12 ⟨Nat.le_of_ble_eq_true rfl, Nat.le_of_ble_eq_true rfl⟩) (fun H4 locs4 hPP hS4 o4 => ?_)
  obtain ⟨z4, hP4⟩ := hPP
  have hWM4 := W_C l D cy (a0 + 114) tb gz10 hP4
  have hWC4 : tw_W (gC l D cy a0 tb) S0 H4 := tw_W_kept hWC3 (fun q hq hlt => o4 q hlt (by
    obtain ⟨j, hj, rfl⟩ := List.mem_map.mp hq
    have hj := List.mem_range.mp hj
    show a0 + j < a0 + 114
    omega))
  clear hP3 hM11 hcw10 hp11 hWC3 o3 o4 hP4
  refine lv_astore_n (nL := 13) (lv := [(1, .ref (a0 + 0)), (0, .ref b)]) (lv' := [(2, .ref (a0 + 114 + 0)), (1, .ref (a0 + 0)), (0, .ref b)]) hx hb dL_law_15 rfl hl (by decide) rfl (fun ls hl => ?_)
  let X : tw_X := (p, e, room_1, s, m, #[Value.ref b], below, meth, c, 13, (fun q => a0 ≤ q), 228, 19408, lw_Z below #[Value.ref b] s)
  have hsz : ∀ q, (tx_s X).heap.size ≤ q → tx_A X q := fun q h => (show a0 ≤ q from Nat.le_trans (Nat.le_of_eq ha0.symm) h)
  have C : tw_C (gC l D cy a0 tb) X cL_law RL := ⟨hx, hb, hml, hown, hts, ⟨hK, fun f => gC_D l D cy a0 tb (fun q h => h) f, gC_LA l D cy a0 tb, gC_inj l D cy a0 tb⟩, ⟨⟨hZ1, hV.1⟩, hT1, hT2⟩, hsz, hlocks⟩
  have CM : tw_C (gC l D cy (a0 + 114) tb) X cL_law RL := ⟨hx, hb, hml, hown, hts, ⟨hK, fun f => gC_D l D cy (a0 + 114) tb hnr f, gC_LA l D cy (a0 + 114) tb, gC_inj l D cy (a0 + 114) tb⟩, ⟨⟨hZ1, hV.1⟩, hT1, hT2⟩, hsz, hlocks⟩
  have NN : tw_N X 13 10 364 := ⟨rfl, rfl, rfl, Nat.le_of_ble_eq_true rfl, Nat.le_of_ble_eq_true rfl⟩
  have hG : tw_cG (gC l D cy a0 tb) := fun r h => h
  have hM : tw_cG (gC l D cy (a0 + 114) tb) := fun r h => h
  have kend : ∀ (Sc Sm : tw_S) (wl : va_W) (LL : List (Nat × Value)), T3 (gC l D cy a0 tb) (gC l D cy (a0 + 114) tb) (txN X) Sc Sm wl LL 609 [.int (nI 1)] := by
    intro Sc Sm wl LL
    refine T3.ti (y := 1) rfl ?_
    intro H locs ls h1 h2 h3 hS hl
    refine W.widen (k := 600000) (n := 7302249) (Nat.le_of_ble_eq_true rfl) (Nat.le_of_ble_eq_true rfl) (va_forget (fun q hq => Nat.le_trans (Nat.le_of_eq ha0) (hS.2.2 q hq)) ?_)
    exact lw_ret hx hb hr hlocks dL_law_609
  have hlaw := law_16 hG hM (st_dj l D cy a0 tb) rfl C CM NN (show L ≤ 260 from hL) (show L ≤ 260 from hL) rfl (lyA_cg (G := gC l D cy (a0 + 114) tb) (G' := gC l D cy a0 tb) (by funext k; rfl)) (Nat.le_of_ble_eq_true rfl) (Nat.le_of_ble_eq_true rfl) kend
  exact hlaw H4 locs4 ls hWC4 hWM4 (fun k q h => by cases h) hS4 hl
