theorem upE_s (g : Nat → va_E) (p : Nat) (e : va_E) : upE g p e p = e := if_pos rfl
theorem upE_n (g : Nat → va_E) {p q : Nat} (e : va_E) (h : q ≠ p) : upE g p e q = g q := if_neg h
theorem nI_nn {a : Nat} (h : a < 2 ^ 31) : (0 : Int32) ≤ nI a := by rw [Int32.le_iff_toInt_le, Int32.toInt_zero, nI_toInt h]; omega
theorem nI_nl {a : Nat} (h : a < 2 ^ 31) : ¬ nI a < 0 := by rw [Int32.lt_iff_toInt_lt, Int32.toInt_zero, nI_toInt h]; omega
theorem nJ_le {a b : Nat} (ha : a < 2 ^ 31) (hb : b < 2 ^ 31) (h : b ≤ a) : nI b ≤ nI a := by rw [Int32.le_iff_toInt_le, nI_toInt ha, nI_toInt hb]; omega
theorem nJ_nle {a b : Nat} (ha : a < 2 ^ 31) (hb : b < 2 ^ 31) (h : a < b) : ¬ nI b ≤ nI a := by rw [Int32.le_iff_toInt_le, nI_toInt ha, nI_toInt hb]; omega
theorem vp_inI {a n : Nat} (h : a < 2 ^ 31 ∧ a < n) : vp_in (nI a) n := fun q => by
  rcases q with q | q
  · exact nI_nl h.1 q
  · rw [tw_cl h.1] at q; omega
section CY
variable {G : tw_G} {X : tw_X} {cc : ByteArray} {own : String} {a0 : Nat}
theorem cy_int (C : tk_C G X cc own a0) : ∀ cA : ClassId, (tx_s X).vm.findClass ("[" ++ (newarray.typeOf .int).toString) = some cA → cA = tw_cy G 0 := fun _ h => Option.some.inj (h.symm.trans (C.2.2.2.2.2.1.2 0 _ rfl).2)
theorem cy_boolean (C : tk_C G X cc own a0) : ∀ cA : ClassId, (tx_s X).vm.findClass ("[" ++ (newarray.typeOf .boolean).toString) = some cA → cA = tw_cy G 1 := fun _ h => Option.some.inj (h.symm.trans (C.2.2.2.2.2.1.2 1 _ rfl).2)
theorem cy_long (C : tk_C G X cc own a0) : ∀ cA : ClassId, (tx_s X).vm.findClass ("[" ++ (newarray.typeOf .long).toString) = some cA → cA = tw_cy G 2 := fun _ h => Option.some.inj (h.symm.trans (C.2.2.2.2.2.1.2 2 _ rfl).2)
theorem cy_X7 (C : tk_C G X cc own a0) : ∀ cA : ClassId, (tx_s X).vm.findClass ("[" ++ (FieldType.object RX7).toString) = some cA → cA = tw_cy G 4 := fun _ h => by
  obtain ⟨_, _, _, _, _, h4⟩ := (C.2.2.2.2.2.1.2 3 _ rfl).2
  exact Option.some.inj (h.symm.trans h4)
theorem cy_X2 (C : tk_C G X cc own a0) : ∀ cA : ClassId, (tx_s X).vm.findClass ("[" ++ (FieldType.object RX2).toString) = some cA → cA = tw_cy G 5 := fun _ h => by
  obtain ⟨_, _, _, _, _, h4⟩ := (C.2.2.2.2.2.1.2 4 _ rfl).2
  exact Option.some.inj (h.symm.trans h4)
end CY
theorem df_X0 : ∀ j, j < 3 → defaultValue (tyX0 j) = vp_V [.null, .null, .null] j := by
  intro j hj
  rcases (show j = 0 ∨ j = 1 ∨ j = 2 by omega) with rfl | rfl | rfl <;> rfl
theorem ny_X0 : tk_y yX0_init cX0_init 2 1 := ⟨wd_83, wd_37, wd_82, rfl, by decide, by decide, by decide +kernel⟩
theorem df_X1 : ∀ j, j < 2 → defaultValue (tyX1 j) = vp_V [.null, .int 0] j := by
  intro j hj
  rcases (show j = 0 ∨ j = 1 by omega) with rfl | rfl <;> rfl
theorem ny_X1 : tk_y yX1_init cX1_init 2 0 := ⟨wd_75, wd_33, wd_74, rfl, by decide, by decide, by decide +kernel⟩
theorem df_X2 : ∀ j, j < 8 → defaultValue (tyX2 j) = vp_V [.null, .null, .int 0, .int 0, .int 0, .int 0, .int 0, .int 0] j := by
  intro j hj
  rcases (show j = 0 ∨ j = 1 ∨ j = 2 ∨ j = 3 ∨ j = 4 ∨ j = 5 ∨ j = 6 ∨ j = 7 by omega) with rfl | rfl | rfl | rfl | rfl | rfl | rfl | rfl <;> rfl
theorem ny_X2 : tk_y yX2_init cX2_init 1 0 := ⟨wd_100, wd_98, wd_99, rfl, by decide, by decide, by decide +kernel⟩
theorem df_X3 : ∀ j, j < 4 → defaultValue (tyX3 j) = vp_V [.null, .null, .long 0, .long 0] j := by
  intro j hj
  rcases (show j = 0 ∨ j = 1 ∨ j = 2 ∨ j = 3 by omega) with rfl | rfl | rfl | rfl <;> rfl
theorem ny_X3 : tk_y yX3_init cX3_init 1 0 := ⟨wd_45, wd_16, wd_44, rfl, by decide, by decide, by decide +kernel⟩
theorem df_X6 : ∀ j, j < 7 → defaultValue (tyX6 j) = vp_V [.null, .null, .int 0, .int 0, .int 0, .int 0, .int 0] j := by
  intro j hj
  rcases (show j = 0 ∨ j = 1 ∨ j = 2 ∨ j = 3 ∨ j = 4 ∨ j = 5 ∨ j = 6 by omega) with rfl | rfl | rfl | rfl | rfl | rfl | rfl <;> rfl
theorem ny_X6 : tk_y yX6_init cX6_init 3 1 := ⟨wd_92, wd_41, wd_91, rfl, by decide, by decide, by decide +kernel⟩
theorem df_X7 : ∀ j, j < 2 → defaultValue (tyX7 j) = vp_V [.null, .int 0] j := by
  intro j hj
  rcases (show j = 0 ∨ j = 1 by omega) with rfl | rfl <;> rfl
theorem ny_X7 : tk_y yX7_init cX7_init 2 1 := ⟨wd_68, wd_25, wd_67, rfl, by decide, by decide, by decide +kernel⟩
theorem df_X8 : ∀ j, j < 1 → defaultValue (tyX8 j) = vp_V [.null] j := by
  intro j hj
  rcases (show j = 0 by omega) with rfl <;> rfl
theorem ny_X8 : tk_y yX8_init cX8_init 2 1 := ⟨wd_56, wd_19, wd_55, rfl, by decide, by decide, by decide +kernel⟩
theorem df_X9 : ∀ j, j < 10 → defaultValue (tyX9 j) = vp_V [.null, .null, .int 0, .int 0, .int 0, .int 0, .int 0, .int 0, .int 0, .int 0] j := by
  intro j hj
  rcases (show j = 0 ∨ j = 1 ∨ j = 2 ∨ j = 3 ∨ j = 4 ∨ j = 5 ∨ j = 6 ∨ j = 7 ∨ j = 8 ∨ j = 9 by omega) with rfl | rfl | rfl | rfl | rfl | rfl | rfl | rfl | rfl | rfl <;> rfl
theorem ny_X9 : tk_y yX9_init cX9_init 2 1 := ⟨wd_61, wd_22, wd_60, rfl, by decide, by decide, by decide +kernel⟩
theorem df_X10 : ∀ j, j < 9 → defaultValue (tyX10 j) = vp_V [.null, .null, .null, .null, .null, .null, .null, .null, .null] j := by
  intro j hj
  rcases (show j = 0 ∨ j = 1 ∨ j = 2 ∨ j = 3 ∨ j = 4 ∨ j = 5 ∨ j = 6 ∨ j = 7 ∨ j = 8 by omega) with rfl | rfl | rfl | rfl | rfl | rfl | rfl | rfl | rfl <;> rfl
theorem ny_X10 : tk_y yX10_init cX10_init 4 0 := ⟨wd_10, wd_3, wd_9, rfl, by decide, by decide, by decide +kernel⟩
def qX7 (G : tw_G) (a0 n p : Nat) (i : Nat) (g : Nat → va_E) : Nat → va_E := (upE (upE (upE g n (.inl (tw_cy G 0, (i, .inl (fun _ => 0))))) p (.inr (5, [.ref (a0 + n), .int 0]))) p (.inr (5, [.ref (a0 + n), .int (nI 0)])))
theorem n_X7 (G : tw_G) (a0 n p : Nat) (g : Nat → va_E) (i : Nat) (hp : p < n) (hg : g p = .inr (5, [.null, .int 0])) (hi : i ≤ 100000) : tk_M G yX7_init cX7_init 2 1 12 1 i [.ref (a0 + p), .int (nI i)] a0 n (n + 1) g (qX7 G a0 n p i g) := by
  refine tk_M.of (L := [(0, .ref (a0 + p)), (1, .int (nI i))]) (by decide) rfl (Nat.le_of_ble_eq_true rfl) rfl (fun X C NN Q => ?_)
  have C : tk_C G X cX7_init RX7 a0 := C
  refine tk_aload_n C dX7_init_0 0 rfl ?_
  refine tk_objInit C NN.1 wd_69 dX7_init_1 (by decide) (by decide) ?_
  refine tk_aload_n C dX7_init_4 0 rfl ?_
  refine tk_iload_n C dX7_init_5 1 rfl ?_
  refine tk_if_ge C dX7_init_6 (tgt := 13) (by decide) (fun c => ?_) (fun c => ?_)
  · skip
    refine tk_iload_n C dX7_init_13 1 rfl ?_
    refine tk_newa (atype := .int) (ty := .int) (cy := 0) (n' := i) (e := (i, .inl (fun _ => 0))) C wd_7 rfl (cy_int C) rfl (nI_nl (by omega)) (tw_cl (by omega)) (by show i * 4 ≤ _; omega) (by rw [NN.2.1]; omega) (by rw [NN.2.2]; omega) dX7_init_14 ?_
    refine tk_put (p := p) (k := 0) (fs := [.null, .int 0]) C fc_X7 (by omega) (Eq.trans (upE_n _ _ (by omega)) hg) (by decide) (Nat.le_of_ble_eq_true rfl) rfl wd_70 rfl rfl dX7_init_16 ?_
    refine tk_aload_n C dX7_init_19 0 rfl ?_
    refine tk_iconst C dX7_init_20 (v := nI 0) (by decide) ?_
    refine tk_put (p := p) (k := 1) (fs := [.ref (a0 + n), .int 0]) C fc_X7 (by omega) (upE_s _ _ _) (by decide) (Nat.le_of_ble_eq_true rfl) rfl wd_71 rfl rfl dX7_init_21 ?_
    exact tk_return C Q dX7_init_24 (by omega) (by omega)
  · exact absurd (nI_nn (by omega)) c
theorem qX7_0 (G : tw_G) (a0 n p : Nat) (i : Nat) (g : Nat → va_E) (hp : p < n) : qX7 G a0 n p i g p = .inr (5, [.ref (a0 + n), .int (nI 0)]) := (upE_s _ _ _)
theorem qX7_1 (G : tw_G) (a0 n p : Nat) (i : Nat) (g : Nat → va_E) (hp : p < n) : qX7 G a0 n p i g n = .inl (tw_cy G 0, (i, .inl (fun _ => 0))) := (Eq.trans (upE_n _ _ (by omega)) (Eq.trans (upE_n _ _ (by omega)) (upE_s _ _ _)))
theorem qX7_o (G : tw_G) (a0 n p : Nat) (i : Nat) (g : Nat → va_E) {q : Nat} (h : q ≠ p) (h2 : q < n ∨ n + 1 ≤ q) : qX7 G a0 n p i g q = g q := (Eq.trans (upE_n _ _ (by omega)) (Eq.trans (upE_n _ _ (by omega)) (Eq.trans (upE_n _ _ (by omega)) rfl)))
def qX3 (G : tw_G) (a0 n p : Nat)  (g : Nat → va_E) : Nat → va_E := (upE (upE (upE (upE (upE (upE g n (.inl (tw_cy G 1, (16, .inl (fun _ => 0))))) p (.inr (3, [.ref (a0 + n), .null, .long 0, .long 0]))) (n + 1) (.inl (tw_cy G 2, (16, .inr (.inl (fun _ => 0)))))) p (.inr (3, [.ref (a0 + n), .ref (a0 + (n + 1)), .long 0, .long 0]))) p (.inr (3, [.ref (a0 + n), .ref (a0 + (n + 1)), .long (lN 1099478073344), .long 0]))) p (.inr (3, [.ref (a0 + n), .ref (a0 + (n + 1)), .long (lN 1099478073344), .long (lN 1099478073344)])))
theorem n_X3 (G : tw_G) (a0 n p : Nat) (g : Nat → va_E)  (hp : p < n) (hg : g p = .inr (3, [.null, .null, .long 0, .long 0]))  : tk_M G yX3_init cX3_init 1 1 12 2 32 [.ref (a0 + p)] a0 n (n + 2) g (qX3 G a0 n p  g) := by
  refine tk_M.of (L := [(0, .ref (a0 + p))]) (by decide) rfl (Nat.le_of_ble_eq_true rfl) rfl (fun X C NN Q => ?_)
  have C : tk_C G X cX3_init RX3 a0 := C
  refine tk_aload_n C dX3_init_0 0 rfl ?_
  refine tk_objInit C NN.1 wd_46 dX3_init_1 (by decide) (by decide) ?_
  refine tk_aload_n C dX3_init_4 0 rfl ?_
  refine tk_bipush C dX3_init_5 (v := nI 16) (by decide) ?_
  refine tk_newa (atype := .boolean) (ty := .boolean) (cy := 1) (n' := 16) (e := (16, .inl (fun _ => 0))) C wd_47 rfl (cy_boolean C) rfl (nI_nl (by omega)) (tw_cl (by omega)) (by show 16 * 1 ≤ _; omega) (by rw [NN.2.1]; omega) (by rw [NN.2.2]; omega) dX3_init_7 ?_
  refine tk_put (p := p) (k := 0) (fs := [.null, .null, .long 0, .long 0]) C fc_X3 (by omega) (Eq.trans (upE_n _ _ (by omega)) hg) (by decide) (Nat.le_of_ble_eq_true rfl) rfl wd_48 rfl rfl dX3_init_9 ?_
  refine tk_aload_n C dX3_init_12 0 rfl ?_
  refine tk_bipush C dX3_init_13 (v := nI 16) (by decide) ?_
  refine tk_newa (atype := .long) (ty := .long) (cy := 2) (n' := 16) (e := (16, .inr (.inl (fun _ => 0)))) C wd_49 rfl (cy_long C) rfl (nI_nl (by omega)) (tw_cl (by omega)) (by show 16 * 8 ≤ _; omega) (by rw [NN.2.1]; omega) (by rw [NN.2.2]; omega) dX3_init_15 ?_
  refine tk_put (p := p) (k := 1) (fs := [.ref (a0 + n), .null, .long 0, .long 0]) C fc_X3 (by omega) (Eq.trans (upE_n _ _ (by omega)) (upE_s _ _ _)) (by decide) (Nat.le_of_ble_eq_true rfl) rfl wd_50 rfl rfl dX3_init_17 ?_
  refine tk_aload_n C dX3_init_20 0 rfl ?_
  refine tk_ldc2 C dX3_init_21 wd_51 (w := lN 1099478073344) (by decide) ?_
  refine tk_put (p := p) (k := 2) (fs := [.ref (a0 + n), .ref (a0 + (n + 1)), .long 0, .long 0]) C fc_X3 (by omega) (upE_s _ _ _) (by decide) (Nat.le_of_ble_eq_true rfl) rfl wd_52 rfl rfl dX3_init_24 ?_
  refine tk_aload_n C dX3_init_27 0 rfl ?_
  refine tk_ldc2 C dX3_init_28 wd_51 (w := lN 1099478073344) (by decide) ?_
  refine tk_put (p := p) (k := 3) (fs := [.ref (a0 + n), .ref (a0 + (n + 1)), .long (lN 1099478073344), .long 0]) C fc_X3 (by omega) (upE_s _ _ _) (by decide) (Nat.le_of_ble_eq_true rfl) rfl wd_53 rfl rfl dX3_init_31 ?_
  exact tk_return C Q dX3_init_34 (by omega) (by omega)
theorem qX3_0 (G : tw_G) (a0 n p : Nat)  (g : Nat → va_E) (hp : p < n) : qX3 G a0 n p  g p = .inr (3, [.ref (a0 + n), .ref (a0 + (n + 1)), .long (lN 1099478073344), .long (lN 1099478073344)]) := (upE_s _ _ _)
theorem qX3_1 (G : tw_G) (a0 n p : Nat)  (g : Nat → va_E) (hp : p < n) : qX3 G a0 n p  g (n + 1) = .inl (tw_cy G 2, (16, .inr (.inl (fun _ => 0)))) := (Eq.trans (upE_n _ _ (by omega)) (Eq.trans (upE_n _ _ (by omega)) (Eq.trans (upE_n _ _ (by omega)) (upE_s _ _ _))))
theorem qX3_2 (G : tw_G) (a0 n p : Nat)  (g : Nat → va_E) (hp : p < n) : qX3 G a0 n p  g n = .inl (tw_cy G 1, (16, .inl (fun _ => 0))) := (Eq.trans (upE_n _ _ (by omega)) (Eq.trans (upE_n _ _ (by omega)) (Eq.trans (upE_n _ _ (by omega)) (Eq.trans (upE_n _ _ (by omega)) (Eq.trans (upE_n _ _ (by omega)) (upE_s _ _ _))))))
theorem qX3_o (G : tw_G) (a0 n p : Nat)  (g : Nat → va_E) {q : Nat} (h : q ≠ p) (h2 : q < n ∨ n + 2 ≤ q) : qX3 G a0 n p  g q = g q := (Eq.trans (upE_n _ _ (by omega)) (Eq.trans (upE_n _ _ (by omega)) (Eq.trans (upE_n _ _ (by omega)) (Eq.trans (upE_n _ _ (by omega)) (Eq.trans (upE_n _ _ (by omega)) (Eq.trans (upE_n _ _ (by omega)) rfl))))))
def qX8 (G : tw_G) (a0 n p : Nat) (v : Nat) (g : Nat → va_E) : Nat → va_E := (upE g p (.inr (6, [.ref v])))
theorem n_X8 (G : tw_G) (a0 n p : Nat) (g : Nat → va_E) (v : Nat) (hp : p < n) (hg : g p = .inr (6, [.null]))  : tk_M G yX8_init cX8_init 2 1 12 0 0 [.ref (a0 + p), .ref v] a0 n (n) g (qX8 G a0 n p v g) := by
  refine tk_M.of (L := [(0, .ref (a0 + p)), (1, .ref v)]) (by decide) rfl (Nat.le_of_ble_eq_true rfl) rfl (fun X C NN Q => ?_)
  have C : tk_C G X cX8_init RX8 a0 := C
  refine tk_aload_n C dX8_init_0 0 rfl ?_
  refine tk_objInit C NN.1 wd_57 dX8_init_1 (by decide) (by decide) ?_
  refine tk_aload_n C dX8_init_4 0 rfl ?_
  refine tk_aload_n C dX8_init_5 1 rfl ?_
  refine tk_put (p := p) (k := 0) (fs := [.null]) C fc_X8 (by omega) hg (by decide) (Nat.le_of_ble_eq_true rfl) rfl wd_58 rfl rfl dX8_init_6 ?_
  exact tk_return C Q dX8_init_9 (by omega) (by omega)
theorem qX8_0 (G : tw_G) (a0 n p : Nat) (v : Nat) (g : Nat → va_E) (hp : p < n) : qX8 G a0 n p v g p = .inr (6, [.ref v]) := (upE_s _ _ _)
theorem qX8_o (G : tw_G) (a0 n p : Nat) (v : Nat) (g : Nat → va_E) {q : Nat} (h : q ≠ p) (h2 : q < n ∨ n + 0 ≤ q) : qX8 G a0 n p v g q = g q := (Eq.trans (upE_n _ _ (by omega)) rfl)
def qX9 (G : tw_G) (a0 n p : Nat) (v : Nat) (g : Nat → va_E) : Nat → va_E := (upE (upE (qX7 G a0 (n + 1) n 600 (upE g n (.inr (5, [.null, .int 0])))) p (.inr (7, [.null, .ref (a0 + n), .int 0, .int 0, .int 0, .int 0, .int 0, .int 0, .int 0, .int 0]))) p (.inr (7, [.ref v, .ref (a0 + n), .int 0, .int 0, .int 0, .int 0, .int 0, .int 0, .int 0, .int 0])))
theorem n_X9 (G : tw_G) (a0 n p : Nat) (g : Nat → va_E) (v : Nat) (hp : p < n) (hg : g p = .inr (7, [.null, .null, .int 0, .int 0, .int 0, .int 0, .int 0, .int 0, .int 0, .int 0]))  : tk_M G yX9_init cX9_init 2 2 33 2 602 [.ref (a0 + p), .ref v] a0 n (n + 2) g (qX9 G a0 n p v g) := by
  refine tk_M.of (L := [(0, .ref (a0 + p)), (1, .ref v)]) (by decide) rfl (Nat.le_of_ble_eq_true rfl) rfl (fun X C NN Q => ?_)
  have C : tk_C G X cX9_init RX9 a0 := C
  refine tk_aload_n C dX9_init_0 0 rfl ?_
  refine tk_objInit C NN.1 wd_62 dX9_init_1 (by decide) (by decide) ?_
  refine tk_aload_n C dX9_init_4 0 rfl ?_
  refine tk_new (fs := [.null, .int 0]) C fc_X7 wd_63 wd_24 wd_25 df_X7 (by rw [NN.2.1]; omega) (by rw [NN.2.2]; omega) dX9_init_5 ?_
  refine tk_dup C dX9_init_8 rfl ?_
  refine tk_sipush C dX9_init_9 (v := nI 600) (by decide) ?_
  refine tk_call (As := [.int (nI 600)]) (rest := [.ref (a0 + n), .ref (a0 + p)]) C NN (n_X7 G a0 (n + 1) n _ 600 (by omega) (upE_s _ _ _) (by omega)) ny_X7 wd_66 rfl (by decide) ⟨by omega, by omega⟩ rfl (Nat.le_of_ble_eq_true rfl) dX9_init_12 ?_
  refine tk_put (p := p) (k := 1) (fs := [.null, .null, .int 0, .int 0, .int 0, .int 0, .int 0, .int 0, .int 0, .int 0]) C fc_X9 (by omega) (Eq.trans (qX7_o _ _ _ _ _ _ (by omega) (by omega)) (Eq.trans (upE_n _ _ (by omega)) hg)) (by decide) (Nat.le_of_ble_eq_true rfl) rfl wd_64 rfl rfl dX9_init_15 ?_
  refine tk_aload_n C dX9_init_18 0 rfl ?_
  refine tk_aload_n C dX9_init_19 1 rfl ?_
  refine tk_put (p := p) (k := 0) (fs := [.null, .ref (a0 + n), .int 0, .int 0, .int 0, .int 0, .int 0, .int 0, .int 0, .int 0]) C fc_X9 (by omega) (upE_s _ _ _) (by decide) (Nat.le_of_ble_eq_true rfl) rfl wd_65 rfl rfl dX9_init_20 ?_
  exact tk_return C Q dX9_init_23 (by omega) (by omega)
theorem qX9_0 (G : tw_G) (a0 n p : Nat) (v : Nat) (g : Nat → va_E) (hp : p < n) : qX9 G a0 n p v g p = .inr (7, [.ref v, .ref (a0 + n), .int 0, .int 0, .int 0, .int 0, .int 0, .int 0, .int 0, .int 0]) := (upE_s _ _ _)
theorem qX9_1 (G : tw_G) (a0 n p : Nat) (v : Nat) (g : Nat → va_E) (hp : p < n) : qX9 G a0 n p v g n = .inr (5, [.ref (a0 + (n + 1)), .int (nI 0)]) := (Eq.trans (upE_n _ _ (by omega)) (Eq.trans (upE_n _ _ (by omega)) (qX7_0 _ _ _ _ _ _ (by omega))))
theorem qX9_2 (G : tw_G) (a0 n p : Nat) (v : Nat) (g : Nat → va_E) (hp : p < n) : qX9 G a0 n p v g (n + 1) = .inl (tw_cy G 0, (600, .inl (fun _ => 0))) := (Eq.trans (upE_n _ _ (by omega)) (Eq.trans (upE_n _ _ (by omega)) (qX7_1 _ _ _ _ _ _ (by omega))))
theorem qX9_o (G : tw_G) (a0 n p : Nat) (v : Nat) (g : Nat → va_E) {q : Nat} (h : q ≠ p) (h2 : q < n ∨ n + 2 ≤ q) : qX9 G a0 n p v g q = g q := (Eq.trans (upE_n _ _ (by omega)) (Eq.trans (upE_n _ _ (by omega)) (Eq.trans (qX7_o _ _ _ _ _ _ (by omega) (by omega)) (Eq.trans (upE_n _ _ (by omega)) rfl))))
def qX2 (G : tw_G) (a0 n p : Nat)  (g : Nat → va_E) : Nat → va_E := (upE (upE (upE (qX7 G a0 (n + 1) n 600 (upE g n (.inr (5, [.null, .int 0])))) p (.inr (2, [.ref (a0 + n), .null, .int 0, .int 0, .int 0, .int 0, .int 0, .int 0]))) (n + 2) (.inl (tw_cy G 0, (75, .inl (fun _ => 0))))) p (.inr (2, [.ref (a0 + n), .ref (a0 + (n + 2)), .int 0, .int 0, .int 0, .int 0, .int 0, .int 0])))
theorem n_X2 (G : tw_G) (a0 n p : Nat) (g : Nat → va_E)  (hp : p < n) (hg : g p = .inr (2, [.null, .null, .int 0, .int 0, .int 0, .int 0, .int 0, .int 0]))  : tk_M G yX2_init cX2_init 1 2 33 3 677 [.ref (a0 + p)] a0 n (n + 3) g (qX2 G a0 n p  g) := by
  refine tk_M.of (L := [(0, .ref (a0 + p))]) (by decide) rfl (Nat.le_of_ble_eq_true rfl) rfl (fun X C NN Q => ?_)
  have C : tk_C G X cX2_init RX2 a0 := C
  refine tk_aload_n C dX2_init_0 0 rfl ?_
  refine tk_objInit C NN.1 wd_101 dX2_init_1 (by decide) (by decide) ?_
  refine tk_aload_n C dX2_init_4 0 rfl ?_
  refine tk_new (fs := [.null, .int 0]) C fc_X7 wd_102 wd_24 wd_25 df_X7 (by rw [NN.2.1]; omega) (by rw [NN.2.2]; omega) dX2_init_5 ?_
  refine tk_dup C dX2_init_8 rfl ?_
  refine tk_sipush C dX2_init_9 (v := nI 600) (by decide) ?_
  refine tk_call (As := [.int (nI 600)]) (rest := [.ref (a0 + n), .ref (a0 + p)]) C NN (n_X7 G a0 (n + 1) n _ 600 (by omega) (upE_s _ _ _) (by omega)) ny_X7 wd_105 rfl (by decide) ⟨by omega, by omega⟩ rfl (Nat.le_of_ble_eq_true rfl) dX2_init_12 ?_
  refine tk_put (p := p) (k := 0) (fs := [.null, .null, .int 0, .int 0, .int 0, .int 0, .int 0, .int 0]) C fc_X2 (by omega) (Eq.trans (qX7_o _ _ _ _ _ _ (by omega) (by omega)) (Eq.trans (upE_n _ _ (by omega)) hg)) (by decide) (Nat.le_of_ble_eq_true rfl) rfl wd_103 rfl rfl dX2_init_15 ?_
  refine tk_aload_n C dX2_init_18 0 rfl ?_
  refine tk_bipush C dX2_init_19 (v := nI 75) (by decide) ?_
  refine tk_newa (atype := .int) (ty := .int) (cy := 0) (n' := 75) (e := (75, .inl (fun _ => 0))) C wd_7 rfl (cy_int C) rfl (nI_nl (by omega)) (tw_cl (by omega)) (by show 75 * 4 ≤ _; omega) (by rw [NN.2.1]; omega) (by rw [NN.2.2]; omega) dX2_init_21 ?_
  refine tk_put (p := p) (k := 1) (fs := [.ref (a0 + n), .null, .int 0, .int 0, .int 0, .int 0, .int 0, .int 0]) C fc_X2 (by omega) (Eq.trans (upE_n _ _ (by omega)) (upE_s _ _ _)) (by decide) (Nat.le_of_ble_eq_true rfl) rfl wd_104 rfl rfl dX2_init_23 ?_
  exact tk_return C Q dX2_init_26 (by omega) (by omega)
theorem qX2_0 (G : tw_G) (a0 n p : Nat)  (g : Nat → va_E) (hp : p < n) : qX2 G a0 n p  g p = .inr (2, [.ref (a0 + n), .ref (a0 + (n + 2)), .int 0, .int 0, .int 0, .int 0, .int 0, .int 0]) := (upE_s _ _ _)
theorem qX2_1 (G : tw_G) (a0 n p : Nat)  (g : Nat → va_E) (hp : p < n) : qX2 G a0 n p  g (n + 2) = .inl (tw_cy G 0, (75, .inl (fun _ => 0))) := (Eq.trans (upE_n _ _ (by omega)) (upE_s _ _ _))
theorem qX2_2 (G : tw_G) (a0 n p : Nat)  (g : Nat → va_E) (hp : p < n) : qX2 G a0 n p  g n = .inr (5, [.ref (a0 + (n + 1)), .int (nI 0)]) := (Eq.trans (upE_n _ _ (by omega)) (Eq.trans (upE_n _ _ (by omega)) (Eq.trans (upE_n _ _ (by omega)) (qX7_0 _ _ _ _ _ _ (by omega)))))
theorem qX2_3 (G : tw_G) (a0 n p : Nat)  (g : Nat → va_E) (hp : p < n) : qX2 G a0 n p  g (n + 1) = .inl (tw_cy G 0, (600, .inl (fun _ => 0))) := (Eq.trans (upE_n _ _ (by omega)) (Eq.trans (upE_n _ _ (by omega)) (Eq.trans (upE_n _ _ (by omega)) (qX7_1 _ _ _ _ _ _ (by omega)))))
theorem qX2_o (G : tw_G) (a0 n p : Nat)  (g : Nat → va_E) {q : Nat} (h : q ≠ p) (h2 : q < n ∨ n + 3 ≤ q) : qX2 G a0 n p  g q = g q := (Eq.trans (upE_n _ _ (by omega)) (Eq.trans (upE_n _ _ (by omega)) (Eq.trans (upE_n _ _ (by omega)) (Eq.trans (qX7_o _ _ _ _ _ _ (by omega) (by omega)) (Eq.trans (upE_n _ _ (by omega)) rfl)))))
def qX0 (G : tw_G) (a0 n p : Nat) (v : Nat) (g : Nat → va_E) : Nat → va_E := (upE (upE (qX7 G a0 (n + 3) (n + 2) 120 (upE (upE (qX7 G a0 (n + 1) n 640 (upE g n (.inr (5, [.null, .int 0])))) p (.inr (0, [.null, .ref (a0 + n), .null]))) (n + 2) (.inr (5, [.null, .int 0])))) p (.inr (0, [.null, .ref (a0 + n), .ref (a0 + (n + 2))]))) p (.inr (0, [.ref v, .ref (a0 + n), .ref (a0 + (n + 2))])))
theorem n_X0 (G : tw_G) (a0 n p : Nat) (g : Nat → va_E) (v : Nat) (hp : p < n) (hg : g p = .inr (0, [.null, .null, .null]))  : tk_M G yX0_init cX0_init 2 2 33 4 764 [.ref (a0 + p), .ref v] a0 n (n + 4) g (qX0 G a0 n p v g) := by
  refine tk_M.of (L := [(0, .ref (a0 + p)), (1, .ref v)]) (by decide) rfl (Nat.le_of_ble_eq_true rfl) rfl (fun X C NN Q => ?_)
  have C : tk_C G X cX0_init RX0 a0 := C
  refine tk_aload_n C dX0_init_0 0 rfl ?_
  refine tk_objInit C NN.1 wd_84 dX0_init_1 (by decide) (by decide) ?_
  refine tk_aload_n C dX0_init_4 0 rfl ?_
  refine tk_new (fs := [.null, .int 0]) C fc_X7 wd_85 wd_24 wd_25 df_X7 (by rw [NN.2.1]; omega) (by rw [NN.2.2]; omega) dX0_init_5 ?_
  refine tk_dup C dX0_init_8 rfl ?_
  refine tk_sipush C dX0_init_9 (v := nI 640) (by decide) ?_
  refine tk_call (As := [.int (nI 640)]) (rest := [.ref (a0 + n), .ref (a0 + p)]) C NN (n_X7 G a0 (n + 1) n _ 640 (by omega) (upE_s _ _ _) (by omega)) ny_X7 wd_89 rfl (by decide) ⟨by omega, by omega⟩ rfl (Nat.le_of_ble_eq_true rfl) dX0_init_12 ?_
  refine tk_put (p := p) (k := 1) (fs := [.null, .null, .null]) C fc_X0 (by omega) (Eq.trans (qX7_o _ _ _ _ _ _ (by omega) (by omega)) (Eq.trans (upE_n _ _ (by omega)) hg)) (by decide) (Nat.le_of_ble_eq_true rfl) rfl wd_86 rfl rfl dX0_init_15 ?_
  refine tk_aload_n C dX0_init_18 0 rfl ?_
  refine tk_new (fs := [.null, .int 0]) C fc_X7 wd_85 wd_24 wd_25 df_X7 (by rw [NN.2.1]; omega) (by rw [NN.2.2]; omega) dX0_init_19 ?_
  refine tk_dup C dX0_init_22 rfl ?_
  refine tk_bipush C dX0_init_23 (v := nI 120) (by decide) ?_
  refine tk_call (As := [.int (nI 120)]) (rest := [.ref (a0 + (n + 2)), .ref (a0 + p)]) C NN (n_X7 G a0 (n + 3) (n + 2) _ 120 (by omega) (upE_s _ _ _) (by omega)) ny_X7 wd_89 rfl (by decide) ⟨by omega, by omega⟩ rfl (Nat.le_of_ble_eq_true rfl) dX0_init_25 ?_
  refine tk_put (p := p) (k := 2) (fs := [.null, .ref (a0 + n), .null]) C fc_X0 (by omega) (Eq.trans (qX7_o _ _ _ _ _ _ (by omega) (by omega)) (Eq.trans (upE_n _ _ (by omega)) (upE_s _ _ _))) (by decide) (Nat.le_of_ble_eq_true rfl) rfl wd_87 rfl rfl dX0_init_28 ?_
  refine tk_aload_n C dX0_init_31 0 rfl ?_
  refine tk_aload_n C dX0_init_32 1 rfl ?_
  refine tk_put (p := p) (k := 0) (fs := [.null, .ref (a0 + n), .ref (a0 + (n + 2))]) C fc_X0 (by omega) (upE_s _ _ _) (by decide) (Nat.le_of_ble_eq_true rfl) rfl wd_88 rfl rfl dX0_init_33 ?_
  exact tk_return C Q dX0_init_36 (by omega) (by omega)
theorem qX0_0 (G : tw_G) (a0 n p : Nat) (v : Nat) (g : Nat → va_E) (hp : p < n) : qX0 G a0 n p v g p = .inr (0, [.ref v, .ref (a0 + n), .ref (a0 + (n + 2))]) := (upE_s _ _ _)
theorem qX0_1 (G : tw_G) (a0 n p : Nat) (v : Nat) (g : Nat → va_E) (hp : p < n) : qX0 G a0 n p v g (n + 2) = .inr (5, [.ref (a0 + (n + 3)), .int (nI 0)]) := (Eq.trans (upE_n _ _ (by omega)) (Eq.trans (upE_n _ _ (by omega)) (qX7_0 _ _ _ _ _ _ (by omega))))
theorem qX0_2 (G : tw_G) (a0 n p : Nat) (v : Nat) (g : Nat → va_E) (hp : p < n) : qX0 G a0 n p v g (n + 3) = .inl (tw_cy G 0, (120, .inl (fun _ => 0))) := (Eq.trans (upE_n _ _ (by omega)) (Eq.trans (upE_n _ _ (by omega)) (qX7_1 _ _ _ _ _ _ (by omega))))
theorem qX0_3 (G : tw_G) (a0 n p : Nat) (v : Nat) (g : Nat → va_E) (hp : p < n) : qX0 G a0 n p v g n = .inr (5, [.ref (a0 + (n + 1)), .int (nI 0)]) := (Eq.trans (upE_n _ _ (by omega)) (Eq.trans (upE_n _ _ (by omega)) (Eq.trans (qX7_o _ _ _ _ _ _ (by omega) (by omega)) (Eq.trans (upE_n _ _ (by omega)) (Eq.trans (upE_n _ _ (by omega)) (qX7_0 _ _ _ _ _ _ (by omega)))))))
theorem qX0_4 (G : tw_G) (a0 n p : Nat) (v : Nat) (g : Nat → va_E) (hp : p < n) : qX0 G a0 n p v g (n + 1) = .inl (tw_cy G 0, (640, .inl (fun _ => 0))) := (Eq.trans (upE_n _ _ (by omega)) (Eq.trans (upE_n _ _ (by omega)) (Eq.trans (qX7_o _ _ _ _ _ _ (by omega) (by omega)) (Eq.trans (upE_n _ _ (by omega)) (Eq.trans (upE_n _ _ (by omega)) (qX7_1 _ _ _ _ _ _ (by omega)))))))
theorem qX0_o (G : tw_G) (a0 n p : Nat) (v : Nat) (g : Nat → va_E) {q : Nat} (h : q ≠ p) (h2 : q < n ∨ n + 4 ≤ q) : qX0 G a0 n p v g q = g q := (Eq.trans (upE_n _ _ (by omega)) (Eq.trans (upE_n _ _ (by omega)) (Eq.trans (qX7_o _ _ _ _ _ _ (by omega) (by omega)) (Eq.trans (upE_n _ _ (by omega)) (Eq.trans (upE_n _ _ (by omega)) (Eq.trans (qX7_o _ _ _ _ _ _ (by omega) (by omega)) (Eq.trans (upE_n _ _ (by omega)) rfl)))))))
def qX6 (G : tw_G) (a0 n p : Nat) (v : Nat) (g : Nat → va_E) : Nat → va_E := (upE (qX2 G a0 (n + 10) (n + 9)  (upE (upE (qX2 G a0 (n + 6) (n + 5)  (upE (upE (qX2 G a0 (n + 2) (n + 1)  (upE (upE (upE (upE g n (.inl (tw_cy G 5, 3, .inr (.inr (.inr (.inr (fun _ => none))))))) p (.inr (4, [.null, .ref (a0 + n), .int 0, .int 0, .int 0, .int 0, .int 0]))) p (.inr (4, [.ref v, .ref (a0 + n), .int 0, .int 0, .int 0, .int 0, .int 0]))) (n + 1) (.inr (2, [.null, .null, .int 0, .int 0, .int 0, .int 0, .int 0, .int 0])))) n (.inl (tw_cy G 5, 3, .inr (.inr (.inr (.inr (va_up ((fun _ => none)) (nI 0).toNatClampNeg (some (a0 + (n + 1)))))))))) (n + 5) (.inr (2, [.null, .null, .int 0, .int 0, .int 0, .int 0, .int 0, .int 0])))) n (.inl (tw_cy G 5, 3, .inr (.inr (.inr (.inr (va_up ((va_up ((fun _ => none)) (nI 0).toNatClampNeg (some (a0 + (n + 1))))) (nI 1).toNatClampNeg (some (a0 + (n + 5)))))))))) (n + 9) (.inr (2, [.null, .null, .int 0, .int 0, .int 0, .int 0, .int 0, .int 0])))) n (.inl (tw_cy G 5, 3, .inr (.inr (.inr (.inr (va_up ((va_up ((va_up ((fun _ => none)) (nI 0).toNatClampNeg (some (a0 + (n + 1))))) (nI 1).toNatClampNeg (some (a0 + (n + 5))))) (nI 2).toNatClampNeg (some (a0 + (n + 9))))))))))
theorem n_X6 (G : tw_G) (a0 n p : Nat) (g : Nat → va_E) (v : Nat) (hp : p < n) (hg : g p = .inr (4, [.null, .null, .int 0, .int 0, .int 0, .int 0, .int 0]))  : tk_M G yX6_init cX6_init 3 3 53 13 2058 [.ref (a0 + p), .ref v] a0 n (n + 13) g (qX6 G a0 n p v g) := by
  refine tk_M.of (L := [(0, .ref (a0 + p)), (1, .ref v)]) (by decide) rfl (Nat.le_of_ble_eq_true rfl) rfl (fun X C NN Q => ?_)
  have C : tk_C G X cX6_init RX6 a0 := C
  refine tk_aload_n C dX6_init_0 0 rfl ?_
  refine tk_objInit C NN.1 wd_93 dX6_init_1 (by decide) (by decide) ?_
  refine tk_aload_n C dX6_init_4 0 rfl ?_
  refine tk_iconst C dX6_init_5 (v := nI 3) (by decide) ?_
  refine tk_anew (cy := 5) (n' := 3) C wd_94 C.2.2.2.2.2.2.2.2.2.2.2 (cy_X2 C) (nI_nl (by omega)) (tw_cl (by omega)) (by decide) (by rw [NN.2.1]; omega) (by rw [NN.2.2]; omega) dX6_init_6 ?_
  refine tk_put (p := p) (k := 1) (fs := [.null, .null, .int 0, .int 0, .int 0, .int 0, .int 0]) C fc_X6 (by omega) (Eq.trans (upE_n _ _ (by omega)) hg) (by decide) (Nat.le_of_ble_eq_true rfl) rfl wd_95 rfl rfl dX6_init_9 ?_
  refine tk_aload_n C dX6_init_12 0 rfl ?_
  refine tk_aload_n C dX6_init_13 1 rfl ?_
  refine tk_put (p := p) (k := 0) (fs := [.null, .ref (a0 + n), .int 0, .int 0, .int 0, .int 0, .int 0]) C fc_X6 (by omega) (upE_s _ _ _) (by decide) (Nat.le_of_ble_eq_true rfl) rfl wd_96 rfl rfl dX6_init_14 ?_
  refine tk_iconst C dX6_init_17 (v := nI 0) (by decide) ?_
  refine tk_istore_n (L' := [(2, .int (nI 0)), (0, .ref (a0 + p)), (1, .ref v)]) C NN.1 dX6_init_18 rfl (by decide) rfl ?_
  refine tk_iload_n C dX6_init_19 0 rfl ?_
  refine tk_iconst C dX6_init_20 (v := nI 3) (by decide) ?_
  refine tk_icmp_ge C dX6_init_21 (tgt := 43) (by decide) (fun c => ?_) (fun c => ?_)
  · exact absurd c (nJ_nle (by omega) (by omega) (by omega))
  refine tk_aload_n C dX6_init_24 1 rfl ?_
  refine tk_get (p := p) (k := 1) (fs := [.ref v, .ref (a0 + n), .int 0, .int 0, .int 0, .int 0, .int 0]) C fc_X6 (by omega) (upE_s _ _ _) (by decide) wd_95 rfl dX6_init_25 ?_
  refine tk_iload_n C dX6_init_28 0 rfl ?_
  refine tk_new (fs := [.null, .null, .int 0, .int 0, .int 0, .int 0, .int 0, .int 0]) C fc_X2 wd_94 wd_97 wd_98 df_X2 (by rw [NN.2.1]; omega) (by rw [NN.2.2]; omega) dX6_init_29 ?_
  refine tk_dup C dX6_init_32 rfl ?_
  refine tk_callN (As := []) (rest := [.ref (a0 + (n + 1)), .int (nI 0), .ref (a0 + n)]) C NN (n_X2 G a0 (n + 2) (n + 1) _  (by omega) (upE_s _ _ _) ) ny_X2 C.2.2.2.2.2.2.2.2.2.1.2.2.2.2.2.2 rfl (by decide) ⟨by omega, by omega⟩ rfl (Nat.le_of_ble_eq_true rfl) dX6_init_33 ?_
  refine tk_aast (t0 := 4) (p := n) (q := n + 1) (vs := [.ref (a0 + (n + 2)), .ref (a0 + ((n + 2) + 2)), .int 0, .int 0, .int 0, .int 0, .int 0, .int 0]) C fc_X2 (by omega) (Eq.trans (qX2_o _ _ _ _  _ (by omega) (by omega)) (Eq.trans (upE_n _ _ (by omega)) (Eq.trans (upE_n _ _ (by omega)) (Eq.trans (upE_n _ _ (by omega)) (upE_s _ _ _))))) rfl (by omega) (qX2_0 _ _ _ _  _ (by omega)) (vp_inI (by omega)) dX6_init_36 ?_
  refine tk_iinc (k := 0) (v := nI 1) (L' := [(2, .int (nI 1)), (0, .ref (a0 + p)), (1, .ref v)]) C NN.1 dX6_init_37 rfl (by decide) (by decide) rfl ?_
  refine tk_goto C dX6_init_40 (tgt := 19) (by decide) ?_
  refine tk_iload_n C dX6_init_19 0 rfl ?_
  refine tk_iconst C dX6_init_20 (v := nI 3) (by decide) ?_
  refine tk_icmp_ge C dX6_init_21 (tgt := 43) (by decide) (fun c => ?_) (fun c => ?_)
  · exact absurd c (nJ_nle (by omega) (by omega) (by omega))
  refine tk_aload_n C dX6_init_24 1 rfl ?_
  refine tk_get (p := p) (k := 1) (fs := [.ref v, .ref (a0 + n), .int 0, .int 0, .int 0, .int 0, .int 0]) C fc_X6 (by omega) (Eq.trans (upE_n _ _ (by omega)) (Eq.trans (qX2_o _ _ _ _  _ (by omega) (by omega)) (Eq.trans (upE_n _ _ (by omega)) (upE_s _ _ _)))) (by decide) wd_95 rfl dX6_init_25 ?_
  refine tk_iload_n C dX6_init_28 0 rfl ?_
  refine tk_new (fs := [.null, .null, .int 0, .int 0, .int 0, .int 0, .int 0, .int 0]) C fc_X2 wd_94 wd_97 wd_98 df_X2 (by rw [NN.2.1]; omega) (by rw [NN.2.2]; omega) dX6_init_29 ?_
  refine tk_dup C dX6_init_32 rfl ?_
  refine tk_callN (As := []) (rest := [.ref (a0 + (n + 5)), .int (nI 1), .ref (a0 + n)]) C NN (n_X2 G a0 (n + 6) (n + 5) _  (by omega) (upE_s _ _ _) ) ny_X2 C.2.2.2.2.2.2.2.2.2.1.2.2.2.2.2.2 rfl (by decide) ⟨by omega, by omega⟩ rfl (Nat.le_of_ble_eq_true rfl) dX6_init_33 ?_
  refine tk_aast (t0 := 4) (p := n) (q := n + 5) (vs := [.ref (a0 + (n + 6)), .ref (a0 + ((n + 6) + 2)), .int 0, .int 0, .int 0, .int 0, .int 0, .int 0]) C fc_X2 (by omega) (Eq.trans (qX2_o _ _ _ _  _ (by omega) (by omega)) (Eq.trans (upE_n _ _ (by omega)) (upE_s _ _ _))) rfl (by omega) (qX2_0 _ _ _ _  _ (by omega)) (vp_inI (by omega)) dX6_init_36 ?_
  refine tk_iinc (k := 0) (v := nI 2) (L' := [(2, .int (nI 2)), (0, .ref (a0 + p)), (1, .ref v)]) C NN.1 dX6_init_37 rfl (by decide) (by decide) rfl ?_
  refine tk_goto C dX6_init_40 (tgt := 19) (by decide) ?_
  refine tk_iload_n C dX6_init_19 0 rfl ?_
  refine tk_iconst C dX6_init_20 (v := nI 3) (by decide) ?_
  refine tk_icmp_ge C dX6_init_21 (tgt := 43) (by decide) (fun c => ?_) (fun c => ?_)
  · exact absurd c (nJ_nle (by omega) (by omega) (by omega))
  refine tk_aload_n C dX6_init_24 1 rfl ?_
  refine tk_get (p := p) (k := 1) (fs := [.ref v, .ref (a0 + n), .int 0, .int 0, .int 0, .int 0, .int 0]) C fc_X6 (by omega) (Eq.trans (upE_n _ _ (by omega)) (Eq.trans (qX2_o _ _ _ _  _ (by omega) (by omega)) (Eq.trans (upE_n _ _ (by omega)) (Eq.trans (upE_n _ _ (by omega)) (Eq.trans (qX2_o _ _ _ _  _ (by omega) (by omega)) (Eq.trans (upE_n _ _ (by omega)) (upE_s _ _ _))))))) (by decide) wd_95 rfl dX6_init_25 ?_
  refine tk_iload_n C dX6_init_28 0 rfl ?_
  refine tk_new (fs := [.null, .null, .int 0, .int 0, .int 0, .int 0, .int 0, .int 0]) C fc_X2 wd_94 wd_97 wd_98 df_X2 (by rw [NN.2.1]; omega) (by rw [NN.2.2]; omega) dX6_init_29 ?_
  refine tk_dup C dX6_init_32 rfl ?_
  refine tk_callN (As := []) (rest := [.ref (a0 + (n + 9)), .int (nI 2), .ref (a0 + n)]) C NN (n_X2 G a0 (n + 10) (n + 9) _  (by omega) (upE_s _ _ _) ) ny_X2 C.2.2.2.2.2.2.2.2.2.1.2.2.2.2.2.2 rfl (by decide) ⟨by omega, by omega⟩ rfl (Nat.le_of_ble_eq_true rfl) dX6_init_33 ?_
  refine tk_aast (t0 := 4) (p := n) (q := n + 9) (vs := [.ref (a0 + (n + 10)), .ref (a0 + ((n + 10) + 2)), .int 0, .int 0, .int 0, .int 0, .int 0, .int 0]) C fc_X2 (by omega) (Eq.trans (qX2_o _ _ _ _  _ (by omega) (by omega)) (Eq.trans (upE_n _ _ (by omega)) (upE_s _ _ _))) rfl (by omega) (qX2_0 _ _ _ _  _ (by omega)) (vp_inI (by omega)) dX6_init_36 ?_
  refine tk_iinc (k := 0) (v := nI 3) (L' := [(2, .int (nI 3)), (0, .ref (a0 + p)), (1, .ref v)]) C NN.1 dX6_init_37 rfl (by decide) (by decide) rfl ?_
  refine tk_goto C dX6_init_40 (tgt := 19) (by decide) ?_
  refine tk_iload_n C dX6_init_19 0 rfl ?_
  refine tk_iconst C dX6_init_20 (v := nI 3) (by decide) ?_
  refine tk_icmp_ge C dX6_init_21 (tgt := 43) (by decide) (fun c => ?_) (fun c => ?_)
  · skip
    exact tk_return C Q dX6_init_43 (by omega) (by omega)
  · exact absurd (nJ_le (by omega) (by omega) (by omega)) c
theorem qX6_0 (G : tw_G) (a0 n p : Nat) (v : Nat) (g : Nat → va_E) (hp : p < n) : qX6 G a0 n p v g n = .inl (tw_cy G 5, 3, .inr (.inr (.inr (.inr (va_up ((va_up ((va_up ((fun _ => none)) (nI 0).toNatClampNeg (some (a0 + (n + 1))))) (nI 1).toNatClampNeg (some (a0 + (n + 5))))) (nI 2).toNatClampNeg (some (a0 + (n + 9)))))))) := (upE_s _ _ _)
theorem qX6_1 (G : tw_G) (a0 n p : Nat) (v : Nat) (g : Nat → va_E) (hp : p < n) : qX6 G a0 n p v g (n + 9) = .inr (2, [.ref (a0 + (n + 10)), .ref (a0 + ((n + 10) + 2)), .int 0, .int 0, .int 0, .int 0, .int 0, .int 0]) := (Eq.trans (upE_n _ _ (by omega)) (qX2_0 _ _ _ _  _ (by omega)))
theorem qX6_2 (G : tw_G) (a0 n p : Nat) (v : Nat) (g : Nat → va_E) (hp : p < n) : qX6 G a0 n p v g (n + 12) = .inl (tw_cy G 0, (75, .inl (fun _ => 0))) := (Eq.trans (upE_n _ _ (by omega)) (qX2_1 _ _ _ _  _ (by omega)))
theorem qX6_3 (G : tw_G) (a0 n p : Nat) (v : Nat) (g : Nat → va_E) (hp : p < n) : qX6 G a0 n p v g (n + 10) = .inr (5, [.ref (a0 + ((n + 10) + 1)), .int (nI 0)]) := (Eq.trans (upE_n _ _ (by omega)) (qX2_2 _ _ _ _  _ (by omega)))
theorem qX6_4 (G : tw_G) (a0 n p : Nat) (v : Nat) (g : Nat → va_E) (hp : p < n) : qX6 G a0 n p v g (n + 11) = .inl (tw_cy G 0, (600, .inl (fun _ => 0))) := (Eq.trans (upE_n _ _ (by omega)) (qX2_3 _ _ _ _  _ (by omega)))
theorem qX6_5 (G : tw_G) (a0 n p : Nat) (v : Nat) (g : Nat → va_E) (hp : p < n) : qX6 G a0 n p v g (n + 5) = .inr (2, [.ref (a0 + (n + 6)), .ref (a0 + ((n + 6) + 2)), .int 0, .int 0, .int 0, .int 0, .int 0, .int 0]) := (Eq.trans (upE_n _ _ (by omega)) (Eq.trans (qX2_o _ _ _ _  _ (by omega) (by omega)) (Eq.trans (upE_n _ _ (by omega)) (Eq.trans (upE_n _ _ (by omega)) (qX2_0 _ _ _ _  _ (by omega))))))
theorem qX6_6 (G : tw_G) (a0 n p : Nat) (v : Nat) (g : Nat → va_E) (hp : p < n) : qX6 G a0 n p v g (n + 8) = .inl (tw_cy G 0, (75, .inl (fun _ => 0))) := (Eq.trans (upE_n _ _ (by omega)) (Eq.trans (qX2_o _ _ _ _  _ (by omega) (by omega)) (Eq.trans (upE_n _ _ (by omega)) (Eq.trans (upE_n _ _ (by omega)) (qX2_1 _ _ _ _  _ (by omega))))))
theorem qX6_7 (G : tw_G) (a0 n p : Nat) (v : Nat) (g : Nat → va_E) (hp : p < n) : qX6 G a0 n p v g (n + 6) = .inr (5, [.ref (a0 + ((n + 6) + 1)), .int (nI 0)]) := (Eq.trans (upE_n _ _ (by omega)) (Eq.trans (qX2_o _ _ _ _  _ (by omega) (by omega)) (Eq.trans (upE_n _ _ (by omega)) (Eq.trans (upE_n _ _ (by omega)) (qX2_2 _ _ _ _  _ (by omega))))))
theorem qX6_8 (G : tw_G) (a0 n p : Nat) (v : Nat) (g : Nat → va_E) (hp : p < n) : qX6 G a0 n p v g (n + 7) = .inl (tw_cy G 0, (600, .inl (fun _ => 0))) := (Eq.trans (upE_n _ _ (by omega)) (Eq.trans (qX2_o _ _ _ _  _ (by omega) (by omega)) (Eq.trans (upE_n _ _ (by omega)) (Eq.trans (upE_n _ _ (by omega)) (qX2_3 _ _ _ _  _ (by omega))))))
theorem qX6_9 (G : tw_G) (a0 n p : Nat) (v : Nat) (g : Nat → va_E) (hp : p < n) : qX6 G a0 n p v g (n + 1) = .inr (2, [.ref (a0 + (n + 2)), .ref (a0 + ((n + 2) + 2)), .int 0, .int 0, .int 0, .int 0, .int 0, .int 0]) := (Eq.trans (upE_n _ _ (by omega)) (Eq.trans (qX2_o _ _ _ _  _ (by omega) (by omega)) (Eq.trans (upE_n _ _ (by omega)) (Eq.trans (upE_n _ _ (by omega)) (Eq.trans (qX2_o _ _ _ _  _ (by omega) (by omega)) (Eq.trans (upE_n _ _ (by omega)) (Eq.trans (upE_n _ _ (by omega)) (qX2_0 _ _ _ _  _ (by omega)))))))))
theorem qX6_10 (G : tw_G) (a0 n p : Nat) (v : Nat) (g : Nat → va_E) (hp : p < n) : qX6 G a0 n p v g (n + 4) = .inl (tw_cy G 0, (75, .inl (fun _ => 0))) := (Eq.trans (upE_n _ _ (by omega)) (Eq.trans (qX2_o _ _ _ _  _ (by omega) (by omega)) (Eq.trans (upE_n _ _ (by omega)) (Eq.trans (upE_n _ _ (by omega)) (Eq.trans (qX2_o _ _ _ _  _ (by omega) (by omega)) (Eq.trans (upE_n _ _ (by omega)) (Eq.trans (upE_n _ _ (by omega)) (qX2_1 _ _ _ _  _ (by omega)))))))))
theorem qX6_11 (G : tw_G) (a0 n p : Nat) (v : Nat) (g : Nat → va_E) (hp : p < n) : qX6 G a0 n p v g (n + 2) = .inr (5, [.ref (a0 + ((n + 2) + 1)), .int (nI 0)]) := (Eq.trans (upE_n _ _ (by omega)) (Eq.trans (qX2_o _ _ _ _  _ (by omega) (by omega)) (Eq.trans (upE_n _ _ (by omega)) (Eq.trans (upE_n _ _ (by omega)) (Eq.trans (qX2_o _ _ _ _  _ (by omega) (by omega)) (Eq.trans (upE_n _ _ (by omega)) (Eq.trans (upE_n _ _ (by omega)) (qX2_2 _ _ _ _  _ (by omega)))))))))
theorem qX6_12 (G : tw_G) (a0 n p : Nat) (v : Nat) (g : Nat → va_E) (hp : p < n) : qX6 G a0 n p v g (n + 3) = .inl (tw_cy G 0, (600, .inl (fun _ => 0))) := (Eq.trans (upE_n _ _ (by omega)) (Eq.trans (qX2_o _ _ _ _  _ (by omega) (by omega)) (Eq.trans (upE_n _ _ (by omega)) (Eq.trans (upE_n _ _ (by omega)) (Eq.trans (qX2_o _ _ _ _  _ (by omega) (by omega)) (Eq.trans (upE_n _ _ (by omega)) (Eq.trans (upE_n _ _ (by omega)) (qX2_3 _ _ _ _  _ (by omega)))))))))
theorem qX6_13 (G : tw_G) (a0 n p : Nat) (v : Nat) (g : Nat → va_E) (hp : p < n) : qX6 G a0 n p v g p = .inr (4, [.ref v, .ref (a0 + n), .int 0, .int 0, .int 0, .int 0, .int 0]) := (Eq.trans (upE_n _ _ (by omega)) (Eq.trans (qX2_o _ _ _ _  _ (by omega) (by omega)) (Eq.trans (upE_n _ _ (by omega)) (Eq.trans (upE_n _ _ (by omega)) (Eq.trans (qX2_o _ _ _ _  _ (by omega) (by omega)) (Eq.trans (upE_n _ _ (by omega)) (Eq.trans (upE_n _ _ (by omega)) (Eq.trans (qX2_o _ _ _ _  _ (by omega) (by omega)) (Eq.trans (upE_n _ _ (by omega)) (upE_s _ _ _))))))))))
theorem qX6_o (G : tw_G) (a0 n p : Nat) (v : Nat) (g : Nat → va_E) {q : Nat} (h : q ≠ p) (h2 : q < n ∨ n + 13 ≤ q) : qX6 G a0 n p v g q = g q := (Eq.trans (upE_n _ _ (by omega)) (Eq.trans (qX2_o _ _ _ _  _ (by omega) (by omega)) (Eq.trans (upE_n _ _ (by omega)) (Eq.trans (upE_n _ _ (by omega)) (Eq.trans (qX2_o _ _ _ _  _ (by omega) (by omega)) (Eq.trans (upE_n _ _ (by omega)) (Eq.trans (upE_n _ _ (by omega)) (Eq.trans (qX2_o _ _ _ _  _ (by omega) (by omega)) (Eq.trans (upE_n _ _ (by omega)) (Eq.trans (upE_n _ _ (by omega)) (Eq.trans (upE_n _ _ (by omega)) (Eq.trans (upE_n _ _ (by omega)) rfl))))))))))))
def FRg (G : tw_G) (a0 n p k : Nat) (g : Nat → va_E) : Nat → va_E := fun j => if j = p then .inr (1, [.ref (a0 + n), .int 0]) else if j = n then .inl (tw_cy G 4, 40, .inr (.inr (.inr (.inr (fun i => if i < k then some (a0 + (n + 1 + 2 * i)) else none))))) else if n < j ∧ j < n + 1 + 2 * k then (if (j - n) % 2 = 1 then .inr (5, [.ref (a0 + (j + 1)), .int 0]) else .inl (tw_cy G 0, (120, .inl (fun _ => 0)))) else g j
theorem FRg_p (G : tw_G) (a0 n p k : Nat) (g : Nat → va_E) : FRg G a0 n p k g p = .inr (1, [.ref (a0 + n), .int 0]) := if_pos rfl
theorem FRg_n (G : tw_G) (a0 : Nat) {n p : Nat} (k : Nat) (g : Nat → va_E) (h : n ≠ p) : FRg G a0 n p k g n = .inl (tw_cy G 4, 40, .inr (.inr (.inr (.inr (fun i => if i < k then some (a0 + (n + 1 + 2 * i)) else none))))) := by rw [FRg, if_neg h, if_pos rfl]
theorem FRg_lt (G : tw_G) (a0 : Nat) {n p q : Nat} (k : Nat) (g : Nat → va_E) (h : q ≠ p) (h2 : q < n) : FRg G a0 n p k g q = g q := by rw [FRg, if_neg h, if_neg (by omega), if_neg (by omega)]
theorem FRg_gt (G : tw_G) (a0 : Nat) {n p q : Nat} (k : Nat) (g : Nat → va_E) (h : q ≠ p) (h2 : n + 1 + 2 * k ≤ q) : FRg G a0 n p k g q = g q := by rw [FRg, if_neg h, if_neg (by omega), if_neg (by omega)]
theorem FRg_0 {G : tw_G} {a0 n p : Nat} {g : Nat → va_E} {o : va_E} (hp : p < n) : upE (upE (upE g n (.inl (tw_cy G 4, 40, .inr (.inr (.inr (.inr (fun _ => none))))))) p o) p (.inr (1, [.ref (a0 + n), .int 0])) = FRg G a0 n p 0 g := by
  funext j
  simp only [upE, FRg]
  by_cases h1 : j = p
  · rw [if_pos h1, if_pos h1]
  · rw [if_neg h1, if_neg h1, if_neg h1]
    by_cases h2 : j = n
    · rw [if_pos h2, if_pos h2]
      simp
    · rw [if_neg h2, if_neg h2, if_neg (by omega)]
theorem FRg_1 {G : tw_G} {a0 n p : Nat} {g : Nat → va_E} (hp : p < n) : upE (upE g n (.inl (tw_cy G 4, 40, .inr (.inr (.inr (.inr (fun _ => none))))))) p (.inr (1, [.ref (a0 + n), .int 0])) = FRg G a0 n p 0 g := by
  funext j
  simp only [upE, FRg]
  by_cases h1 : j = p
  · rw [if_pos h1, if_pos h1]
  · rw [if_neg h1, if_neg h1]
    by_cases h2 : j = n
    · rw [if_pos h2, if_pos h2]
      simp
    · rw [if_neg h2, if_neg h2, if_neg (by omega)]
theorem FRg_s {G : tw_G} {a0 n p k : Nat} {g : Nat → va_E} {o1 o2 : va_E} (hp : p < n) (hk : k < 40) : upE (upE (upE (upE (upE (FRg G a0 n p k g) (n + 1 + 2 * k) o1) (n + 1 + 2 * k + 1) (.inl (tw_cy G 0, (120, .inl (fun _ => 0))))) (n + 1 + 2 * k) o2) (n + 1 + 2 * k) (.inr (5, [.ref (a0 + (n + 1 + 2 * k + 1)), .int 0]))) n (.inl (tw_cy G 4, 40, .inr (.inr (.inr (.inr (va_up (fun i => if i < k then some (a0 + (n + 1 + 2 * i)) else none) (nI k).toNatClampNeg (some (a0 + (n + 1 + 2 * k))))))))) = FRg G a0 n p (k + 1) g := by
  rw [tw_cl (show k < 2 ^ 31 by omega)]
  funext j
  simp only [upE, FRg]
  by_cases h1 : j = n
  · subst h1
    rw [if_pos rfl, if_neg (by omega), if_pos rfl]
    congr 7
    funext i
    by_cases hi : i = k
    · subst hi; simp [va_up]
    · simp only [va_up, hi, if_false]
      by_cases h2 : i < k
      · rw [if_pos h2, if_pos (by omega)]
      · rw [if_neg h2, if_neg (by omega)]
  · rw [if_neg h1]
    by_cases h2 : j = n + 1 + 2 * k
    · rw [if_pos h2, if_neg (by omega), if_neg h1, if_pos (by omega), if_pos (by omega), h2]
    · rw [if_neg h2, if_neg h2]
      by_cases h3 : j = n + 1 + 2 * k + 1
      · rw [if_pos h3, if_neg (by omega), if_neg h1, if_pos (by omega), if_neg (by omega)]
      · rw [if_neg h3, if_neg h2, if_neg h1, if_neg h1]
        by_cases h4 : j = p
        · rw [if_pos h4, if_pos h4]
        · rw [if_neg h4, if_neg h4]
          by_cases h5 : n < j ∧ j < n + 1 + 2 * k
          · rw [if_pos h5, if_pos (show n < j ∧ j < n + 1 + 2 * (k + 1) by omega)]
          · rw [if_neg h5, if_neg (show ¬ (n < j ∧ j < n + 1 + 2 * (k + 1)) by omega)]
theorem n_X1 (G : tw_G) (a0 n p : Nat) (g : Nat → va_E) (hp : p < n) (hg : g p = .inr (1, [.null, .int 0])) : tk_M G yX1_init cX1_init 2 2 33 81 4920 [.ref (a0 + p)] a0 n (n + 81) g (upE (FRg G a0 n p 40 g) p (.inr (1, [.ref (a0 + n), .int (nI 0)]))) := by
  refine tk_M.of (L := [(0, .ref (a0 + p))]) (by decide) rfl (Nat.le_of_ble_eq_true rfl) rfl (fun X C NN Q => ?_)
  have C : tk_C G X cX1_init RX1 a0 := C
  have loop : ∀ (d k : Nat) (_ : k + d = 40), TK G X a0 (n + 1 + 2 * k) (FRg G a0 n p k g) (1 + 2 * k) (40 + 122 * k) [(1, .int (nI k)), (0, .ref (a0 + p))] 15 [] := by
    intro d
    induction d with
    | zero =>
      intro k hk
      have hk4 : k = 40 := by omega
      subst hk4
      refine tk_iload_n C dX1_init_15 0 rfl ?_
      refine tk_bipush C dX1_init_16 (v := nI 40) (by decide) ?_
      refine tk_icmp_ge C dX1_init_18 (tgt := 42) (by decide) (fun c => ?_) (fun c => ?_)
      · skip
        refine tk_aload_n C dX1_init_42 1 rfl ?_
        refine tk_iconst C dX1_init_43 (v := nI 0) (by decide) ?_
        refine tk_put (p := p) (k := 1) (fs := [.ref (a0 + n), .int 0]) C fc_X1 (by omega) (FRg_p _ _ _ _ _ _) (by decide) (Nat.le_of_ble_eq_true rfl) rfl wd_79 rfl rfl dX1_init_44 ?_
        exact tk_return C Q dX1_init_47 (by omega) (by omega)
      · exact absurd (nJ_le (by omega) (by omega) (by omega)) c
    | succ d ih =>
      intro k hk
      have hk4 : k < 40 := by omega
      refine tk_iload_n C dX1_init_15 0 rfl ?_
      refine tk_bipush C dX1_init_16 (v := nI 40) (by decide) ?_
      refine tk_icmp_ge C dX1_init_18 (tgt := 42) (by decide) (fun c => ?_) (fun c => ?_)
      · exact absurd c (nJ_nle (by omega) (by omega) (by omega))
      refine tk_aload_n C dX1_init_21 1 rfl ?_
      refine tk_get (p := p) (k := 0) (fs := [.ref (a0 + n), .int 0]) C fc_X1 (by omega) (FRg_p _ _ _ _ _ _) (by decide) wd_78 rfl dX1_init_22 ?_
      refine tk_iload_n C dX1_init_25 0 rfl ?_
      refine tk_new (fs := [.null, .int 0]) C fc_X7 wd_77 wd_24 wd_25 df_X7 (by rw [NN.2.1]; omega) (by rw [NN.2.2]; omega) dX1_init_26 ?_
      refine tk_dup C dX1_init_29 rfl ?_
      refine tk_bipush C dX1_init_30 (v := nI 120) (by decide) ?_
      refine tk_call (As := [.int (nI 120)]) (rest := [.ref (a0 + (n + 1 + 2 * k)), .int (nI k), .ref (a0 + n)]) C NN (n_X7 G a0 (n + 1 + 2 * k + 1) (n + 1 + 2 * k) _ 120 (by omega) (upE_s _ _ _) (by omega)) ny_X7 wd_80 rfl (by decide) ⟨by omega, by omega⟩ rfl (Nat.le_of_ble_eq_true rfl) dX1_init_32 ?_
      refine tk_aast (t0 := 3) (p := n) (q := n + 1 + 2 * k) (vs := [.ref (a0 + (n + 1 + 2 * k + 1)), .int (nI 0)]) C fc_X7 (by omega) (Eq.trans (qX7_o _ _ _ _ _ _ (by omega) (by omega)) (Eq.trans (upE_n _ _ (by omega)) (FRg_n _ _ _ _ (by omega)))) rfl (by omega) (qX7_0 _ _ _ _ _ _ (by omega)) (vp_inI (by omega)) dX1_init_35 ?_
      refine tk_iinc (k := 0) (v := nI (k + 1)) (L' := [(1, .int (nI (k + 1))), (0, .ref (a0 + p))]) C NN.1 dX1_init_36 rfl (tn_inc1 _) (by decide) rfl ?_
      refine tk_goto C dX1_init_39 (tgt := 15) (by decide) ?_
      have h9 := ih (k + 1) (by omega)
      rw [show n + 1 + 2 * (k + 1) = n + 1 + 2 * k + 1 + 1 by omega, show 1 + 2 * (k + 1) = 1 + 2 * k + 1 + 1 by omega, show 40 + 122 * (k + 1) = 40 + 122 * k + 2 + 120 by omega] at h9
      exact TK.ge (FRg_s hp hk4) (TK.c (L' := [(1, .int (nI ((k + 1)))), (0, .ref (a0 + p))]) (by simp) h9)
  refine tk_aload_n C dX1_init_0 0 rfl ?_
  refine tk_objInit C NN.1 wd_76 dX1_init_1 (by decide) (by decide) ?_
  refine tk_aload_n C dX1_init_4 0 rfl ?_
  refine tk_bipush C dX1_init_5 (v := nI 40) (by decide) ?_
  refine tk_anew (cy := 4) (n' := 40) C wd_77 C.2.2.2.2.2.2.2.2.2.2.1 (cy_X7 C) (nI_nl (by omega)) (tw_cl (by omega)) (by decide) (by rw [NN.2.1]; omega) (by rw [NN.2.2]; omega) dX1_init_7 ?_
  refine tk_put (p := p) (k := 0) (fs := [.null, .int 0]) C fc_X1 (by omega) (Eq.trans (upE_n _ _ (by omega)) hg) (by decide) (Nat.le_of_ble_eq_true rfl) rfl wd_78 rfl rfl dX1_init_10 ?_
  refine tk_iconst C dX1_init_13 (v := nI 0) (by decide) ?_
  refine tk_istore_n (L' := [(1, .int (nI 0)), (0, .ref (a0 + p))]) C NN.1 dX1_init_14 rfl (by decide) rfl ?_
  refine TK.ge (FRg_1 hp) ?_
  exact loop 40 0 rfl
