/-! a frame of the model is built -/
def FU (B : tw_S) (f z : Nat → Int32) : tw_S := tw_wA (tw_wA B 125 f) 126 z
def FB (B : tw_S) (k : Nat) (f z : Nat → Int32) (xs : List Nat) : Prop := z k = nI xs.length ∧ (∀ i, i < xs.length → f (120 * k + i) = nI (xs.getD i 0)) ∧ (∀ j, j ≠ k → z j = tw_A B 126 j) ∧ ∀ q, q < 120 * k ∨ 120 * k + 120 ≤ q → f q = tw_A B 125 q
theorem FU_uA5 (B : tw_S) (f z : Nat → Int32) (a : Nat) (x : Int32) : tw_uA (FU B f z) 125 a x = FU B (upd f a x) z := by
  simp only [FU, tw_uA, tw_wA, Prod.mk.injEq, true_and, and_true]
  funext q j
  by_cases h : q = 126
  · subst h; simp
  · by_cases h2 : q = 125
    · subst h2
      by_cases h3 : j = a <;> simp [h3, upd]
    · simp [h, h2]
theorem FU_uA6 (B : tw_S) (f z : Nat → Int32) (a : Nat) (x : Int32) : tw_uA (FU B f z) 126 a x = FU B f (upd z a x) := by
  simp only [FU, tw_uA, tw_wA, Prod.mk.injEq, true_and, and_true]
  funext q j
  by_cases h : q = 126
  · subst h
    by_cases h3 : j = a <;> simp [h3, upd]
  · simp [h]
theorem FU_self (B : tw_S) : B = FU B (tw_A B 125) (tw_A B 126) := by
  show B = tw_wA (tw_wA B 125 (tw_A B 125)) 126 (tw_A B 126)
  rw [wA_self, wA_self]
theorem FB_push {B : tw_S} {k b : Nat} {f z : Nat → Int32} {xs : List Nat} (h : FB B k f z xs) (hl : xs.length < 120) : FB B k (upd f (120 * k + xs.length) (nI b)) (upd z k (nI (xs.length + 1))) (xs ++ [b]) := by
  refine ⟨by simp [upd], fun i hi => ?_, fun j hj => ?_, fun q hq => ?_⟩
  · by_cases hx : i = xs.length
    · subst hx
      simp [upd, List.getD_eq_getElem?_getD]
    · have h1 : i < xs.length := by simp at hi; omega
      have e : (xs ++ [b]).getD i 0 = xs.getD i 0 := by simp [List.getD_eq_getElem?_getD, List.getElem?_append_left h1]
      rw [e]
      simp only [upd, show ¬ 120 * k + i = 120 * k + xs.length by omega, if_false]
      exact h.2.1 i h1
  · simp only [upd, hj, if_false]; exact h.2.2.1 j hj
  · simp only [upd, show ¬ q = 120 * k + xs.length by omega, if_false]; exact h.2.2.2 q hq
theorem FB_nil {B : tw_S} {k : Nat} {f z : Nat → Int32} {xs : List Nat} (h : FB B k f z xs) : FB B k f (upd z k (nI 0)) [] := ⟨by simp [upd], fun i hi => absurd hi (by simp), fun j hj => by simp only [upd, hj, if_false]; exact h.2.2.1 j hj, h.2.2.2⟩
theorem FB_new (B : tw_S) (k : Nat) : FB B k (tw_A B 125) (upd (tw_A B 126) k (nI 0)) [] := ⟨by simp [upd], fun i hi => absurd hi (by simp), fun j hj => by simp only [upd, hj, if_false], fun _ _ => rfl⟩
theorem c_X11_addTo {G : tw_G} (hM : tw_mG G) {B : tw_S} {k : Nat} {f z : Nat → Int32} {xs : List Nat} (hF : FB B k f z xs) (hk : k < 40) (hl : xs.length < 120) {b : Nat} : tw_M G yX11_addTo cX11_addTo 3 none 0 0 [.ref (tw_ad G 114), .int (nI k), .int (nI b)] ((FU B f z)) ri_V (fun _ S' => ∃ g y, S' = FU B g y ∧ FB B k g y (xs ++ [b % 256])) := by
  refine tw_M.of (L := [(0, .ref (tw_ad G 114)), (1, .int (nI k)), (2, .int (nI b))]) (by decide) (Nat.le_of_ble_eq_true rfl) rfl (fun X C N Q => ?_)
  have C : tw_C G X cX11_addTo RX11 := C
  refine tw_aload_n C dX11_addTo_0 0 rfl ?_
  refine tw_getR (q := 125) (k := 30) C dX11_addTo_1 fc_X11 sh_114 (hM 114 (by decide) (by decide)) rfl (by decide) wd_121 ?_
  refine tw_bipush C dX11_addTo_4 (v := nI 120) (by decide) ?_
  refine tw_iload_n C dX11_addTo_6 1 rfl ?_
  refine tw_imul C dX11_addTo_7 (v := nI (120 * k)) (pk_mul _ _) ?_
  refine tw_aload_n C dX11_addTo_8 0 rfl ?_
  refine tw_getR (q := 126) (k := 31) C dX11_addTo_9 fc_X11 sh_114 (hM 114 (by decide) (by decide)) rfl (by decide) wd_122 ?_
  refine tw_iload_n C dX11_addTo_12 1 rfl ?_
  refine tw_iald (v := nI xs.length) C dX11_addTo_13 sn_126 sa_126 (hM 126 (by decide) (by decide)) (by omega) (by decide) hF.1 ?_
  refine tw_iadd C dX11_addTo_14 (v := nI ((120 * k) + xs.length)) (nI_add _ _) ?_
  refine tw_iload_n C dX11_addTo_15 2 rfl ?_
  refine tw_sipush C dX11_addTo_16 (v := nI 255) (by decide) ?_
  refine tw_iand C dX11_addTo_19 (v := nI (b % 256)) (nI_andm 8 (by decide)) ?_
  refine tw_iast C dX11_addTo_20 sn_125 sa_125 (hM 125 (by decide) (by decide)) (by omega) (by decide) ?_
  refine TW.sS (S' := FU B (upd f ((120 * k) + xs.length) (nI (b % 256))) z) (FU_uA5 _ _ _ _ _) ?_
  refine tw_aload_n C dX11_addTo_21 0 rfl ?_
  refine tw_getR (q := 126) (k := 31) C dX11_addTo_22 fc_X11 sh_114 (hM 114 (by decide) (by decide)) rfl (by decide) wd_122 ?_
  refine tw_iload_n C dX11_addTo_25 1 rfl ?_
  refine tw_dup2 C dX11_addTo_26 rfl rfl ?_
  refine tw_iald (v := nI xs.length) C dX11_addTo_27 sn_126 sa_126 (hM 126 (by decide) (by decide)) (by omega) (by decide) hF.1 ?_
  refine tw_iconst C dX11_addTo_28 (v := nI 1) (by decide) ?_
  refine tw_iadd C dX11_addTo_29 (v := nI (xs.length + 1)) (nI_add _ _) ?_
  refine tw_iast C dX11_addTo_30 sn_126 sa_126 (hM 126 (by decide) (by decide)) (by omega) (by decide) ?_
  refine TW.sS (S' := FU B (upd f ((120 * k) + xs.length) (nI (b % 256))) (upd z k (nI (xs.length + 1)))) (FU_uA6 _ _ _ _ _) ?_
  exact tw_return (v := ()) C Q dX11_addTo_31 rfl rfl ⟨_, _, rfl, FB_push hF hl⟩
theorem bg_eq {a u t : Nat} (ha : a < 256) (hu : a * 256 + u < 65536) : ((([] ++ [(a + u / 256) % 256]) ++ [u % 256]) ++ [t / 256 % 256]) ++ [t % 256] = be (a * 256 + u) 2 ++ be t 2 := by
  show _ = [(a * 256 + u) / 2 ^ 8 % 256, (a * 256 + u) / 2 ^ 0 % 256] ++ [t / 2 ^ 8 % 256, t / 2 ^ 0 % 256]
  simp only [List.nil_append, List.cons_append, List.cons.injEq, and_true, Nat.pow_zero, Nat.div_one, Nat.reducePow]
  refine ⟨?_, ?_⟩ <;> omega
theorem c_X11_begin {G : tw_G} (hM : tw_mG G) {B : tw_S} {k : Nat} {f z : Nat → Int32} {xs : List Nat} (hF : FB B k f z xs) (hk : k < 40) {a u t : Nat} (ha : a < 256) (hu : a * 256 + u < 65536) (hu2 : u < 65536) (ht : t < 65536) : tw_M G yX11_begin cX11_begin 5 none 1 22 [.ref (tw_ad G 114), .int (nI k), .int (nI a), .int (nI u), .int (nI t)] ((FU B f z)) ri_V (fun _ S' => ∃ g y, S' = FU B g y ∧ FB B k g y (be (a * 256 + u) 2 ++ be t 2)) := by
  refine tw_M.of (L := [(0, .ref (tw_ad G 114)), (1, .int (nI k)), (2, .int (nI a)), (3, .int (nI u)), (4, .int (nI t))]) (by decide) (Nat.le_of_ble_eq_true rfl) rfl (fun X C N Q => ?_)
  have C : tw_C G X cX11_begin RX11 := C
  refine tw_aload_n C dX11_begin_0 0 rfl ?_
  refine tw_getR (q := 126) (k := 31) C dX11_begin_1 fc_X11 sh_114 (hM 114 (by decide) (by decide)) rfl (by decide) wd_122 ?_
  refine tw_iload_n C dX11_begin_4 1 rfl ?_
  refine tw_iconst C dX11_begin_5 (v := nI 0) (by decide) ?_
  refine tw_iast C dX11_begin_6 sn_126 sa_126 (hM 126 (by decide) (by decide)) (by omega) (by decide) ?_
  refine TW.sS (S' := FU B f (upd z k (nI 0))) (FU_uA6 _ _ _ _ _) ?_
  refine tw_aload_n C dX11_begin_7 0 rfl ?_
  refine tw_iload_n C dX11_begin_8 1 rfl ?_
  refine tw_iload_n C dX11_begin_9 2 rfl ?_
  refine tw_iload_n C dX11_begin_10 3 rfl ?_
  refine tw_bipush C dX11_begin_11 (v := nI 8) (by decide) ?_
  refine tw_ishr C dX11_begin_13 (v := nI (u / 256)) (nI_shr (by omega) 8 (by decide)) ?_
  refine tw_iadd C dX11_begin_14 (v := nI (a + (u / 256))) (nI_add _ _) ?_
  refine tw_callV (As := [.int (nI k), .int (nI (a + (u / 256)))]) (rest := []) C N (c_X11_addTo hM (B := B) (k := k) (f := f) (z := (upd z k (nI 0))) (xs := []) (FB_nil hF) (by omega) (by first | omega | (simp only [List.length_append, List.length_take, List.length_cons, List.length_nil, cutD_len, be_len]; omega)) (b := a + (u / 256))) mm_X11_addTo wd_693 rfl (hM 114 (by decide) (by decide)) sh_114 rfl (by decide) rfl (Nat.le_of_ble_eq_true rfl) dX11_begin_15 ?_
  rintro _ _ ⟨g1, yg1, rfl, hg1⟩
  show TW G X (FU B g1 yg1) [(0, .ref (tw_ad G 114)), (1, .int (nI k)), (2, .int (nI a)), (3, .int (nI u)), (4, .int (nI t))] 18 []
  refine tw_aload_n C dX11_begin_18 0 rfl ?_
  refine tw_iload_n C dX11_begin_19 1 rfl ?_
  refine tw_iload_n C dX11_begin_20 3 rfl ?_
  refine tw_callV (As := [.int (nI k), .int (nI u)]) (rest := []) C N (c_X11_addTo hM (B := B) (k := k) (f := g1) (z := yg1) (xs := ([]) ++ [(a + (u / 256)) % 256]) hg1 (by omega) (by first | omega | (simp only [List.length_append, List.length_take, List.length_cons, List.length_nil, cutD_len, be_len]; omega)) (b := u)) mm_X11_addTo wd_693 rfl (hM 114 (by decide) (by decide)) sh_114 rfl (by decide) rfl (Nat.le_of_ble_eq_true rfl) dX11_begin_21 ?_
  rintro _ _ ⟨g3, yg3, rfl, hg3⟩
  show TW G X (FU B g3 yg3) [(0, .ref (tw_ad G 114)), (1, .int (nI k)), (2, .int (nI a)), (3, .int (nI u)), (4, .int (nI t))] 24 []
  refine tw_aload_n C dX11_begin_24 0 rfl ?_
  refine tw_iload_n C dX11_begin_25 1 rfl ?_
  refine tw_iload C dX11_begin_26 4 rfl ?_
  refine tw_bipush C dX11_begin_28 (v := nI 8) (by decide) ?_
  refine tw_ishr C dX11_begin_30 (v := nI (t / 256)) (nI_shr (by omega) 8 (by decide)) ?_
  refine tw_callV (As := [.int (nI k), .int (nI (t / 256))]) (rest := []) C N (c_X11_addTo hM (B := B) (k := k) (f := g3) (z := yg3) (xs := (([]) ++ [(a + (u / 256)) % 256]) ++ [u % 256]) hg3 (by omega) (by first | omega | (simp only [List.length_append, List.length_take, List.length_cons, List.length_nil, cutD_len, be_len]; omega)) (b := t / 256)) mm_X11_addTo wd_693 rfl (hM 114 (by decide) (by decide)) sh_114 rfl (by decide) rfl (Nat.le_of_ble_eq_true rfl) dX11_begin_31 ?_
  rintro _ _ ⟨g5, yg5, rfl, hg5⟩
  show TW G X (FU B g5 yg5) [(0, .ref (tw_ad G 114)), (1, .int (nI k)), (2, .int (nI a)), (3, .int (nI u)), (4, .int (nI t))] 34 []
  refine tw_aload_n C dX11_begin_34 0 rfl ?_
  refine tw_iload_n C dX11_begin_35 1 rfl ?_
  refine tw_iload C dX11_begin_36 4 rfl ?_
  refine tw_callV (As := [.int (nI k), .int (nI t)]) (rest := []) C N (c_X11_addTo hM (B := B) (k := k) (f := g5) (z := yg5) (xs := ((([]) ++ [(a + (u / 256)) % 256]) ++ [u % 256]) ++ [(t / 256) % 256]) hg5 (by omega) (by first | omega | (simp only [List.length_append, List.length_take, List.length_cons, List.length_nil, cutD_len, be_len]; omega)) (b := t)) mm_X11_addTo wd_693 rfl (hM 114 (by decide) (by decide)) sh_114 rfl (by decide) rfl (Nat.le_of_ble_eq_true rfl) dX11_begin_38 ?_
  rintro _ _ ⟨g7, yg7, rfl, hg7⟩
  show TW G X (FU B g7 yg7) [(0, .ref (tw_ad G 114)), (1, .int (nI k)), (2, .int (nI a)), (3, .int (nI u)), (4, .int (nI t))] 41 []
  exact tw_return (v := ()) C Q dX11_begin_41 rfl rfl ⟨_, _, rfl, by rw [← bg_eq (by omega) (by omega)]; exact hg7⟩
