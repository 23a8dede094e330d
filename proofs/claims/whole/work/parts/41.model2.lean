/-! what the model holds -/
def mK (S : tw_S) (K : kN) : Prop := (∀ i, i < 16 → tw_A S 115 i = bI (kT K i)) ∧ (∀ i k, i < 16 → k < 8 → tw_A S 116 (8 * i + k) = nI (kV K i / 2 ^ (56 - 8 * k) % 256)) ∧ (∀ i k, i < 2 → k < 8 → tw_A S 117 (8 * i + k) = nI (kO K i / 2 ^ (56 - 8 * k) % 256)) ∧ KW K
def mR (S : tw_S) (r k : Nat) (xs : List Nat) : Prop := LA (tw_A S r) xs ∧ tw_I S 114 k = nI xs.length
def mF (S : tw_S) (fr : List (List Nat)) : Prop := fr.length ≤ 40 ∧ tw_I S 114 32 = nI fr.length ∧ ∀ k, k < fr.length → tw_A S 126 k = nI (fr.getD k []).length ∧ ∀ i, i < (fr.getD k []).length → tw_A S 125 (120 * k + i) = nI ((fr.getD k []).getD i 0)
def mL (S : tw_S) (T : Nat → Int32) : Prop := tw_I S 114 27 = T 0 ∧ tw_I S 114 28 = T 1 ∧ ∀ j, 2 ≤ j → j < 8 → tw_A S 124 j = T j
abbrev mE : Type := Nat × Nat × Nat × List (Nat × List Nat)
def mHp (S : tw_S) (hl : List mE) : Prop := hl.length ≤ 3 ∧ tw_I S 114 34 = nI hl.length ∧ ∀ h, h < hl.length → tw_A S 127 h = nI (hl.getD h (0, 0, 0, [])).1 ∧ tw_A S 128 h = nI (hl.getD h (0, 0, 0, [])).2.1 ∧ tw_A S 129 h = nI (hl.getD h (0, 0, 0, [])).2.2.1 ∧ tw_A S 131 h = nI (hl.getD h (0, 0, 0, [])).2.2.2.length ∧ ∀ i, i < (hl.getD h (0, 0, 0, [])).2.2.2.length → tw_A S 132 (100 * h + i) = nI ((hl.getD h (0, 0, 0, [])).2.2.2.getD i (0, [])).1 ∧ tw_A S 133 (100 * h + i) = nI ((hl.getD h (0, 0, 0, [])).2.2.2.getD i (0, [])).2.length ∧ ∀ j, j < ((hl.getD h (0, 0, 0, [])).2.2.2.getD i (0, [])).2.length → tw_A S 130 (600 * h + ((hl.getD h (0, 0, 0, [])).2.2.2.getD i (0, [])).1 + j) = nI (((hl.getD h (0, 0, 0, [])).2.2.2.getD i (0, [])).2.getD j 0)
def mC (S : tw_S) (ck wh dr la an : Nat) : Prop := tw_I S 114 33 = nI ck ∧ tw_I S 114 42 = nI wh ∧ tw_I S 114 43 = nI dr ∧ tw_I S 114 44 = nI la ∧ tw_I S 114 45 = nI an
def MI (S : tw_S) (K : kN) (tp ot : List Nat) (fr : List (List Nat)) (T : Nat → Int32) (hl : List mE) (ck wh dr la an : Nat) : Prop := mK S K ∧ mR S 118 4 tp ∧ mR S 119 6 ot ∧ mF S fr ∧ mL S T ∧ mHp S hl ∧ mC S ck wh dr la an
section MS
variable {S S' : tw_S} {K : kN} {tp ot : List Nat} {fr : List (List Nat)} {T : Nat → Int32} {hl : List mE} {ck wh dr la an : Nat}
theorem MI_tp {x : List Nat} {g : Nat → Int32} (h : MI S K tp ot fr T hl ck wh dr la an) (hg : LA g x) : MI (MU S 118 4 g x) K x ot fr T hl ck wh dr la an := ⟨h.1, ⟨hg, rfl⟩, h.2.2⟩
theorem MI_ot {x : List Nat} {g : Nat → Int32} (h : MI S K tp ot fr T hl ck wh dr la an) (hg : LA g x) : MI (MU S 119 6 g x) K tp x fr T hl ck wh dr la an := ⟨h.1, h.2.1, ⟨hg, rfl⟩, h.2.2.2⟩
theorem MI_rw {x : List Nat} {g : Nat → Int32} (h : MI S K tp ot fr T hl ck wh dr la an) : MI (MU S 120 8 g x) K tp ot fr T hl ck wh dr la an := h
end MS
theorem be_step {v n i s : Nat} {xs : List Nat} (h : i < n) (he : s = 8 * (n - 1 - i)) : (xs ++ (be v n).take i) ++ [v / 2 ^ s % 256 % 256] = xs ++ (be v n).take (i + 1) := by
  rw [be_take h, Nat.mod_mod, he, List.append_assoc]
theorem be_all (v n : Nat) : (be v n).take n = be v n := List.take_of_length_le (by rw [be_len]; exact Nat.le_refl _)
theorem nI_dec (d : Nat) : nI d + (-1) = nI d - nI 1 := by
  rw [Int32.sub_eq_add_neg]; rfl
theorem LA_take {f : Nat → Int32} {xs : List Nat} (h : LA f xs) (n : Nat) : LA f (xs.take n) := by
  intro i hi
  have h2 : i < xs.length := by rw [List.length_take] at hi; omega
  have h3 : i < n := by rw [List.length_take] at hi; omega
  rw [h i h2]
  simp [List.getD_eq_getElem?_getD, List.getElem?_take, h3]
theorem LA_set {f : Nat → Int32} {xs : List Nat} (h : LA f xs) (i b : Nat) : LA (upd f i (nI b)) (xs.set i b) := by
  intro j hj
  rw [List.length_set] at hj
  by_cases hx : j = i
  · subst hx
    simp [upd, List.getD_eq_getElem?_getD, List.getElem?_set_self hj]
  · simp only [upd, hx, if_false]
    rw [h j hj]
    simp [List.getD_eq_getElem?_getD, List.getElem?_set_ne (Ne.symm hx)]
theorem c_X11_layLong {G : tw_G} (hM : tw_mG G) {B : tw_S} {f : Nat → Int32} {xs : List Nat} (hf : LA f xs) (hl : xs.length + 8 ≤ 640) {u : Nat} : tw_M G yX11_layLong cX11_layLong 4 none 1 21 [.ref (tw_ad G 114), .long (lN u)] ((MU B 118 4 f xs)) ri_V (fun _ S' => ∃ g, S' = MU B 118 4 g (xs ++ be u 8) ∧ LA g (xs ++ be u 8)) := by
  refine tw_M.of (L := [(0, .ref (tw_ad G 114)), (1, .long (lN u))]) (by decide) (Nat.le_of_ble_eq_true rfl) rfl (fun X C N Q => ?_)
  have C : tw_C G X cX11_layLong RX11 := C
  have loop : ∀ (d : Nat) (k : Nat) (f : Nat → Int32) (_ : k + d = 8) (hf : LA f (xs ++ (be u 8).take k)), TW G X (MU B 118 4 f (xs ++ (be u 8).take k)) [(3, .int (nI k)), (0, .ref (tw_ad G 114)), (1, .long (lN u))] 2 [] := by
    intro d
    induction d with
    | zero =>
      intro k f hk hf
      refine tw_iload_n C dX11_layLong_2 0 rfl ?_
      refine tw_bipush C dX11_layLong_3 (v := nI 8) (by decide) ?_
      refine tn_icmp_ge C dX11_layLong_5 (tgt := 32) (by decide) (by omega) (by omega) (fun c1 => ?_) (fun c1 => ?_)
      · skip
        exact tw_return (v := ()) C Q dX11_layLong_32 rfl rfl ⟨f, by rw [show k = 8 by omega, be_all], by rw [show k = 8 by omega, be_all] at hf; exact hf⟩
      · exact absurd c1 (by omega)
    | succ d ih =>
      intro k f hk hf
      refine tw_iload_n C dX11_layLong_2 0 rfl ?_
      refine tw_bipush C dX11_layLong_3 (v := nI 8) (by decide) ?_
      refine tn_icmp_ge C dX11_layLong_5 (tgt := 32) (by decide) (by omega) (by omega) (fun c1 => ?_) (fun c1 => ?_)
      · exact absurd c1 (by omega)
      refine tw_aload_n C dX11_layLong_8 1 rfl ?_
      refine tw_lload_n C dX11_layLong_9 2 rfl ?_
      refine tw_bipush C dX11_layLong_10 (v := nI 56) (by decide) ?_
      refine tw_bipush C dX11_layLong_12 (v := nI 8) (by decide) ?_
      refine tw_iload_n C dX11_layLong_14 0 rfl ?_
      refine tw_imul C dX11_layLong_15 (v := nI (8 * k)) (pk_mul _ _) ?_
      refine tw_isub C dX11_layLong_16 (v := nI (56 - (8 * k))) (pk_sub (by omega)) ?_
      refine tw_lshr C dX11_layLong_17 (v := lN u >>> ((nI (56 - 8 * k)).toInt64 &&& 63)) rfl ?_
      refine tw_ldc2 C dX11_layLong_18 wd_134 (w := lN 255) (by decide) ?_
      refine tw_land C dX11_layLong_21 (v := lN (u / 2 ^ (56 - 8 * k) % 256)) (lN_sar (by omega)) ?_
      refine tw_l2i C dX11_layLong_22 (v := nI (u / 2 ^ (56 - 8 * k) % 256)) (lN_i32 _) ?_
      refine tw_callV (As := [.int (nI (u / 2 ^ (56 - 8 * k) % 256))]) (rest := []) C N (c_X11_lay hM (B := B) (f := f) (xs := xs ++ (be u 8).take k) hf (by first | omega | (simp only [List.length_append, List.length_take, be_len, List.length_cons, List.length_nil]; omega)) (b := u / 2 ^ (56 - 8 * k) % 256)) mm_X11_lay wd_190 rfl (hM 114 (by decide) (by decide)) sh_114 rfl (by decide) rfl (Nat.le_of_ble_eq_true rfl) dX11_layLong_23 ?_
      rintro _ _ ⟨f2, rfl, hf2⟩
      show TW G X (MU B 118 4 f2 ((xs ++ (be u 8).take k) ++ [(u / 2 ^ (56 - 8 * k) % 256) % 256])) [(3, .int (nI k)), (0, .ref (tw_ad G 114)), (1, .long (lN u))] 26 []
      refine tw_iinc (k := 0) (v := nI (k + 1)) (L' := [(3, .int (nI (k + 1))), (0, .ref (tw_ad G 114)), (1, .long (lN u))]) C N dX11_layLong_26 rfl (tn_inc1 _) (by decide) rfl ?_
      refine tw_goto C dX11_layLong_29 (tgt := 2) (by decide) ?_
      rw [be_step (by omega) (by omega)] at hf2 ⊢
      refine TW.c (L' := [(3, .int (nI (k + 1))), (0, .ref (tw_ad G 114)), (1, .long (lN u))]) (by simp) ?_
      exact ih (k + 1) f2 (by omega) hf2
  refine tw_iconst C dX11_layLong_0 (v := nI 0) (by decide) ?_
  refine tw_istore_n (L' := [(3, .int (nI 0)), (0, .ref (tw_ad G 114)), (1, .long (lN u))]) C N dX11_layLong_1 rfl (by decide) rfl ?_
  refine TW.sS (S' := MU B 118 4 f (xs ++ (be u 8).take 0)) (by simp) ?_
  exact loop 8 0 f rfl (by simpa using hf)
theorem c_X11_type {G : tw_G} (hM : tw_mG G) {S : tw_S} {K : kN} {tp ot : List Nat} {fr : List (List Nat)} {T : Nat → Int32} {hl : List mE} {ck wh dr la an : Nat} (hI : MI S K tp ot fr T hl ck wh dr la an) {i : Nat} (hi : i < 2 ^ 32) {u : Nat} (htl : tp.length ≤ 640) : tw_M G yX11_type cX11_type 5 (some .int) 1 22 [.ref (tw_ad G 114), .long (lN u), .int (nI i)] S ri_I (fun v S' => if 1 ≤ i ∧ i ≤ 8 then (if i + tp.length ≤ 640 then v = nI (tp ++ be u i).length ∧ MI S' K (tp ++ be u i) ot fr T hl ck wh dr la an else v = -3 ∧ S = S') else v = -1 ∧ S = S') := by
  refine tw_M.of (L := [(0, .ref (tw_ad G 114)), (1, .long (lN u)), (3, .int (nI i))]) (by decide) (Nat.le_of_ble_eq_true rfl) rfl (fun X C N Q => ?_)
  have C : tw_C G X cX11_type RX11 := C
  have loop : 1 ≤ i ∧ i ≤ 8 → i + tp.length ≤ 640 → ∀ (d j : Nat) (f : Nat → Int32) (_ : j + d = i) (hf : LA f (tp ++ (be u i).take j)), TW G X (MU S 118 4 f (tp ++ (be u i).take j)) [(4, .int (nI d - nI 1)), (0, .ref (tw_ad G 114)), (1, .long (lN u)), (3, .int (nI i))] 32 [] := by
    intro hi8 hfit d
    induction d with
    | zero =>
      intro j f hj hf
      refine tw_iload C dX11_type_32 0 rfl ?_
      refine tw_if_lt C dX11_type_34 (tgt := 59) (by decide) (fun c34 => ?_) (fun c34 => ?_)
      · skip
        refine tw_aload_n C dX11_type_59 1 rfl ?_
        refine tw_getI (v := nI ((tp ++ (be u i).take j).length)) (k := 4) C dX11_type_60 fc_X11 sh_114 (hM 114 (by decide) (by decide)) rfl (by decide) wd_189 rfl ?_
        exact tw_ireturn C Q dX11_type_63 rfl rfl rfl (by rw [if_pos (by omega), if_pos (by omega)]; exact ⟨by rw [show j = i by omega, be_all], by rw [show j = i by omega, be_all] at hf ⊢; exact MI_tp hI hf⟩)
      · exact absurd (sub_neg (by decide) (by decide) (by decide)) c34
    | succ d ih =>
      intro j f hj hf
      refine TW.c (L' := [(4, .int (nI d)), (0, .ref (tw_ad G 114)), (1, .long (lN u)), (3, .int (nI i))]) (by rw [show nI (d + 1) - nI 1 = nI d from pk_sub (by omega)]; simp) ?_
      refine tw_iload C dX11_type_32 0 rfl ?_
      refine tn_if_lt C dX11_type_34 (tgt := 59) (by decide) (by omega) (fun c1 => ?_) (fun c1 => ?_)
      · exact absurd c1 id
      refine tw_aload_n C dX11_type_37 1 rfl ?_
      refine tw_lload_n C dX11_type_38 2 rfl ?_
      refine tw_bipush C dX11_type_39 (v := nI 8) (by decide) ?_
      refine tw_iload C dX11_type_41 0 rfl ?_
      refine tw_imul C dX11_type_43 (v := nI (8 * d)) (pk_mul _ _) ?_
      refine tw_lshr C dX11_type_44 (v := lN u >>> ((nI (8 * d)).toInt64 &&& 63)) rfl ?_
      refine tw_ldc2 C dX11_type_45 wd_134 (w := lN 255) (by decide) ?_
      refine tw_land C dX11_type_48 (v := lN (u / 2 ^ (8 * d) % 256)) (lN_sar (by omega)) ?_
      refine tw_l2i C dX11_type_49 (v := nI (u / 2 ^ (8 * d) % 256)) (lN_i32 _) ?_
      refine tw_callV (As := [.int (nI (u / 2 ^ (8 * d) % 256))]) (rest := []) C N (c_X11_lay hM (B := S) (f := f) (xs := tp ++ (be u i).take j) hf (by first | omega | (simp only [List.length_append, List.length_take, be_len, List.length_cons, List.length_nil]; omega)) (b := u / 2 ^ (8 * d) % 256)) mm_X11_lay wd_190 rfl (hM 114 (by decide) (by decide)) sh_114 rfl (by decide) rfl (Nat.le_of_ble_eq_true rfl) dX11_type_50 ?_
      rintro _ _ ⟨f2, rfl, hf2⟩
      show TW G X (MU S 118 4 f2 ((tp ++ (be u i).take j) ++ [(u / 2 ^ (8 * d) % 256) % 256])) [(4, .int (nI d)), (0, .ref (tw_ad G 114)), (1, .long (lN u)), (3, .int (nI i))] 53 []
      refine tw_iinc (k := 0) (v := nI d + (-1)) (L' := [(4, .int (nI d + (-1))), (0, .ref (tw_ad G 114)), (1, .long (lN u)), (3, .int (nI i))]) C N dX11_type_53 rfl rfl (by decide) rfl ?_
      refine tw_goto C dX11_type_56 (tgt := 32) (by decide) ?_
      rw [be_step (by omega) (by omega)] at hf2 ⊢
      refine TW.c (L' := [(4, .int (nI d - nI 1)), (0, .ref (tw_ad G 114)), (1, .long (lN u)), (3, .int (nI i))]) (by rw [← nI_dec]; simp) ?_
      exact ih (j + 1) f2 (by omega) hf2
  refine tw_iload_n C dX11_type_0 2 rfl ?_
  refine tw_iconst C dX11_type_1 (v := nI 1) (by decide) ?_
  refine tw_bipush C dX11_type_2 (v := nI 8) (by decide) ?_
  refine tw_callS (As := [.int (nI i), .int (nI 1), .int (nI 8)]) (rest := []) C N (c_X11_in1 (S := S) (v := i) (lo := 1) (hi := 8) (by omega) (by omega) (by omega)) mm_X11_in wd_135 rfl (by decide) rfl (Nat.le_of_ble_eq_true rfl) dX11_type_4 ?_
  rintro _ _ ⟨rfl, rfl⟩
  show TW G X S [(0, .ref (tw_ad G 114)), (1, .long (lN u)), (3, .int (nI i))] 7 [.int (bI (decide (1 ≤ i ∧ i ≤ 8)))]
  refine tb_if_ne C dX11_type_7 (tgt := 12) (by decide) (fun cg => ?_) (fun cg => ?_)
  · have hi8 := of_decide_eq_true cg
    refine tw_aload_n C dX11_type_12 0 rfl ?_
    refine tw_getI (v := nI tp.length) (k := 4) C dX11_type_13 fc_X11 sh_114 (hM 114 (by decide) (by decide)) rfl (by decide) wd_189 hI.2.1.2 ?_
    refine tw_iload_n C dX11_type_16 2 rfl ?_
    refine tw_iadd C dX11_type_17 (v := nI (tp.length + i)) (nI_add _ _) ?_
    refine tw_sipush C dX11_type_18 (v := nI 640) (by decide) ?_
    refine tn_icmp_le C dX11_type_21 (tgt := 27) (by decide) (by omega) (by omega) (fun cf => ?_) (fun cf => ?_)
    · skip
      refine tw_iload_n C dX11_type_27 2 rfl ?_
      refine tw_iconst C dX11_type_28 (v := nI 1) (by decide) ?_
      refine tw_isub C dX11_type_29 (v := nI (i - 1)) (pk_sub (by omega)) ?_
      refine tw_istore (L' := [(4, .int (nI (i - 1))), (0, .ref (tw_ad G 114)), (1, .long (lN u)), (3, .int (nI i))]) C N dX11_type_30 (i := 4) (by decide) rfl ?_
      refine TW.sS (S' := MU S 118 4 (tw_A S 118) (tp ++ (be u i).take 0)) (by rw [List.take_zero, List.append_nil]; exact MU_self hI.2.1.2) ?_
      refine TW.c (L' := [(4, .int (nI i - nI 1)), (0, .ref (tw_ad G 114)), (1, .long (lN u)), (3, .int (nI i))]) (by rw [show nI i - nI 1 = nI (i - 1) from pk_sub (by omega)]; simp) ?_
      exact loop hi8 (by omega) i 0 _ (by omega) (by rw [List.take_zero, List.append_nil]; exact hI.2.1.1)
    · skip
      refine tw_bipush C dX11_type_24 (v := (-3)) (by decide) ?_
      exact tw_ireturn C Q dX11_type_26 rfl rfl rfl (by rw [if_pos (of_decide_eq_true cg), if_neg (by omega)]; exact ⟨rfl, rfl⟩)
  · skip
    refine tw_iconst C dX11_type_10 (v := (-1)) (by decide) ?_
    exact tw_ireturn C Q dX11_type_11 rfl rfl rfl (by rw [if_neg (of_decide_eq_false cg)]; exact ⟨rfl, rfl⟩)
theorem MI_cut {S : tw_S} {K : kN} {tp ot : List Nat} {fr : List (List Nat)} {T : Nat → Int32} {hl : List mE} {ck wh dr la an i : Nat} (h : MI S K tp ot fr T hl ck wh dr la an) (hi : i ≤ tp.length) : MI (tw_uI S 114 4 (nI i)) K (tp.take i) ot fr T hl ck wh dr la an := ⟨h.1, ⟨LA_take h.2.1.1 i, by rw [List.length_take, Nat.min_eq_left hi]; rfl⟩, h.2.2⟩
theorem LA_cg {f g : Nat → Int32} {xs : List Nat} (h : LA f xs) (e : ∀ i, i < xs.length → g i = f i) : LA g xs := fun i hi => (e i hi).trans (h i hi)
theorem MI_poke {S : tw_S} {K : kN} {tp ot : List Nat} {fr : List (List Nat)} {T : Nat → Int32} {hl : List mE} {ck wh dr la an i b : Nat} (h : MI S K tp ot fr T hl ck wh dr la an) : MI (tw_uA S 118 i (nI b)) K (tp.set i b) ot fr T hl ck wh dr la an := ⟨h.1, ⟨LA_cg (LA_set h.2.1.1 i b) (fun j _ => by rw [tq_A_uA]; simp only [upd, true_and]), by rw [List.length_set]; exact h.2.1.2⟩, h.2.2⟩
theorem c_X11_cut {G : tw_G} (hM : tw_mG G) {S : tw_S} {K : kN} {tp ot : List Nat} {fr : List (List Nat)} {T : Nat → Int32} {hl : List mE} {ck wh dr la an : Nat} (hI : MI S K tp ot fr T hl ck wh dr la an) {i : Nat} (hi : i < 2 ^ 32) (htl : tp.length ≤ 640) : tw_M G yX11_cut cX11_cut 3 (some .int) 1 22 [.ref (tw_ad G 114), .int (nI i)] S ri_I (fun v S' => if i ≤ tp.length then v = nI (tp.length - i) ∧ MI S' K (tp.take i) ot fr T hl ck wh dr la an else v = -1 ∧ S = S') := by
  refine tw_M.of (L := [(0, .ref (tw_ad G 114)), (1, .int (nI i))]) (by decide) (Nat.le_of_ble_eq_true rfl) rfl (fun X C N Q => ?_)
  have C : tw_C G X cX11_cut RX11 := C
  refine tw_iload_n C dX11_cut_0 1 rfl ?_
  refine tw_iconst C dX11_cut_1 (v := nI 0) (by decide) ?_
  refine tw_aload_n C dX11_cut_2 0 rfl ?_
  refine tw_getI (v := nI tp.length) (k := 4) C dX11_cut_3 fc_X11 sh_114 (hM 114 (by decide) (by decide)) rfl (by decide) wd_189 hI.2.1.2 ?_
  refine tw_callS (As := [.int (nI i), .int (nI 0), .int (nI tp.length)]) (rest := []) C N (c_X11_in1 (S := S) (v := i) (lo := 0) (hi := tp.length) (by omega) (by omega) (by omega)) mm_X11_in wd_135 rfl (by decide) rfl (Nat.le_of_ble_eq_true rfl) dX11_cut_6 ?_
  rintro _ _ ⟨rfl, rfl⟩
  show TW G X S [(0, .ref (tw_ad G 114)), (1, .int (nI i))] 9 [.int (bI (decide (0 ≤ i ∧ i ≤ tp.length)))]
  refine tb_if_ne C dX11_cut_9 (tgt := 14) (by decide) (fun cg => ?_) (fun cg => ?_)
  · have hle : i ≤ tp.length := (of_decide_eq_true cg).2
    refine tw_aload_n C dX11_cut_14 0 rfl ?_
    refine tw_getI (v := nI tp.length) (k := 4) C dX11_cut_15 fc_X11 sh_114 (hM 114 (by decide) (by decide)) rfl (by decide) wd_189 hI.2.1.2 ?_
    refine tw_iload_n C dX11_cut_18 1 rfl ?_
    refine tw_isub C dX11_cut_19 (v := nI (tp.length - i)) (pk_sub (by omega)) ?_
    refine tw_istore_n (L' := [(2, .int (nI (tp.length - i))), (0, .ref (tw_ad G 114)), (1, .int (nI i))]) C N dX11_cut_20 rfl (by decide) rfl ?_
    refine tw_aload_n C dX11_cut_21 1 rfl ?_
    refine tw_iload_n C dX11_cut_22 2 rfl ?_
    refine tw_putI (k := 4) C dX11_cut_23 fc_X11 sh_114 (hM 114 (by decide) (by decide)) rfl (by decide) rfl wd_189 rfl rfl ?_
    refine tw_iload_n C dX11_cut_26 0 rfl ?_
    exact tw_ireturn C Q dX11_cut_27 rfl rfl rfl (by rw [if_pos hle]; exact ⟨rfl, MI_cut hI hle⟩)
  · skip
    refine tw_iconst C dX11_cut_12 (v := (-1)) (by decide) ?_
    exact tw_ireturn C Q dX11_cut_13 rfl rfl rfl (by rw [if_neg (by have := of_decide_eq_false cg; omega)]; exact ⟨rfl, rfl⟩)
theorem c_X11_poke {G : tw_G} (hM : tw_mG G) {S : tw_S} {K : kN} {tp ot : List Nat} {fr : List (List Nat)} {T : Nat → Int32} {hl : List mE} {ck wh dr la an : Nat} (hI : MI S K tp ot fr T hl ck wh dr la an) {i : Nat} (hi : i < 2 ^ 32) {m : Nat} (htl : tp.length ≤ 640) : tw_M G yX11_poke cX11_poke 3 (some .int) 1 22 [.ref (tw_ad G 114), .int (nI i), .int (nI m)] S ri_I (fun v S' => if i < tp.length then v = nI (tp.getD i 0 ^^^ m % 256) ∧ MI S' K (tp.set i (tp.getD i 0 ^^^ m % 256)) ot fr T hl ck wh dr la an else v = -1 ∧ S = S') := by
  refine tw_M.of (L := [(0, .ref (tw_ad G 114)), (1, .int (nI i)), (2, .int (nI m))]) (by decide) (Nat.le_of_ble_eq_true rfl) rfl (fun X C N Q => ?_)
  have C : tw_C G X cX11_poke RX11 := C
  refine tw_iload_n C dX11_poke_0 1 rfl ?_
  refine tw_iconst C dX11_poke_1 (v := nI 0) (by decide) ?_
  refine tw_aload_n C dX11_poke_2 0 rfl ?_
  refine tw_getI (v := nI tp.length) (k := 4) C dX11_poke_3 fc_X11 sh_114 (hM 114 (by decide) (by decide)) rfl (by decide) wd_189 hI.2.1.2 ?_
  refine tw_iconst C dX11_poke_6 (v := nI 1) (by decide) ?_
  refine tw_isub C dX11_poke_7 (v := (nI tp.length) - (nI 1)) rfl ?_
  refine tw_callS (As := [.int (nI i), .int (nI 0), .int ((nI tp.length) - (nI 1))]) (rest := []) C N (c_X11_in0 (S := S) (v := i) (m := tp.length) (by omega) (by omega)) mm_X11_in wd_135 rfl (by decide) rfl (Nat.le_of_ble_eq_true rfl) dX11_poke_8 ?_
  rintro _ _ ⟨rfl, rfl⟩
  show TW G X S [(0, .ref (tw_ad G 114)), (1, .int (nI i)), (2, .int (nI m))] 11 [.int (bI (decide (i < tp.length)))]
  refine tb_if_ne C dX11_poke_11 (tgt := 16) (by decide) (fun cg => ?_) (fun cg => ?_)
  · have hle : i < tp.length := of_decide_eq_true cg
    refine tw_aload_n C dX11_poke_16 0 rfl ?_
    refine tw_getR (q := 118) (k := 3) C dX11_poke_17 fc_X11 sh_114 (hM 114 (by decide) (by decide)) rfl (by decide) wd_114 ?_
    refine tw_iload_n C dX11_poke_20 1 rfl ?_
    refine tw_aload_n C dX11_poke_21 0 rfl ?_
    refine tw_getR (q := 118) (k := 3) C dX11_poke_22 fc_X11 sh_114 (hM 114 (by decide) (by decide)) rfl (by decide) wd_114 ?_
    refine tw_iload_n C dX11_poke_25 1 rfl ?_
    refine tw_iald (v := nI (tp.getD i 0)) C dX11_poke_26 sn_118 sa_118 (hM 118 (by decide) (by decide)) (by omega) (by decide) (hI.2.1.1 i (by omega)) ?_
    refine tw_iload_n C dX11_poke_27 2 rfl ?_
    refine tw_sipush C dX11_poke_28 (v := nI 255) (by decide) ?_
    refine tw_iand C dX11_poke_31 (v := nI (m % 256)) (nI_andm 8 (by decide)) ?_
    refine tw_ixor C dX11_poke_32 (v := nI ((tp.getD i 0) ^^^ (m % 256))) (nI_xor _ _) ?_
    refine tw_iast C dX11_poke_33 sn_118 sa_118 (hM 118 (by decide) (by decide)) (by omega) (by decide) ?_
    refine tw_aload_n C dX11_poke_34 0 rfl ?_
    refine tw_getR (q := 118) (k := 3) C dX11_poke_35 fc_X11 sh_114 (hM 114 (by decide) (by decide)) rfl (by decide) wd_114 ?_
    refine tw_iload_n C dX11_poke_38 1 rfl ?_
    refine tw_iald (v := nI (tp.getD i 0 ^^^ m % 256)) C dX11_poke_39 sn_118 sa_118 (hM 118 (by decide) (by decide)) (by omega) (by decide) (by rw [tq_A_uA, if_pos ⟨rfl, rfl⟩]) ?_
    exact tw_ireturn C Q dX11_poke_40 rfl rfl rfl (by rw [if_pos hle]; exact ⟨rfl, MI_poke hI⟩)
  · skip
    refine tw_iconst C dX11_poke_14 (v := (-1)) (by decide) ?_
    exact tw_ireturn C Q dX11_poke_15 rfl rfl rfl (by rw [if_neg (of_decide_eq_false cg)]; exact ⟨rfl, rfl⟩)
theorem c_X11_out {G : tw_G} (hM : tw_mG G) {S : tw_S} {K : kN} {tp ot : List Nat} {fr : List (List Nat)} {T : Nat → Int32} {hl : List mE} {ck wh dr la an : Nat} (hI : MI S K tp ot fr T hl ck wh dr la an) {i : Nat} (hi : i < 2 ^ 32) (hol : ot.length ≤ 640) : tw_M G yX11_out cX11_out 2 (some .int) 1 22 [.ref (tw_ad G 114), .int (nI i)] S ri_I (fun v S' => v = bOL ot i ∧ S = S') := by
  refine tw_M.of (L := [(0, .ref (tw_ad G 114)), (1, .int (nI i))]) (by decide) (Nat.le_of_ble_eq_true rfl) rfl (fun X C N Q => ?_)
  have C : tw_C G X cX11_out RX11 := C
  refine tw_iload_n C dX11_out_0 1 rfl ?_
  refine tw_iconst C dX11_out_1 (v := (-1)) (by decide) ?_
  refine tw_icmp_ne C dX11_out_2 (tgt := 12) (by decide) (fun cm => ?_) (fun cm => ?_)
  · skip
    refine tw_iload_n C dX11_out_12 1 rfl ?_
    refine tw_iconst C dX11_out_13 (v := nI 0) (by decide) ?_
    refine tw_aload_n C dX11_out_14 0 rfl ?_
    refine tw_getI (v := nI ot.length) (k := 6) C dX11_out_15 fc_X11 sh_114 (hM 114 (by decide) (by decide)) rfl (by decide) wd_270 hI.2.2.1.2 ?_
    refine tw_iconst C dX11_out_18 (v := nI 1) (by decide) ?_
    refine tw_isub C dX11_out_19 (v := (nI ot.length) - (nI 1)) rfl ?_
    refine tw_callS (As := [.int (nI i), .int (nI 0), .int ((nI ot.length) - (nI 1))]) (rest := []) C N (c_X11_in0 (S := S) (v := i) (m := ot.length) (by omega) (by omega)) mm_X11_in wd_135 rfl (by decide) rfl (Nat.le_of_ble_eq_true rfl) dX11_out_20 ?_
    rintro _ _ ⟨rfl, rfl⟩
    show TW G X S [(0, .ref (tw_ad G 114)), (1, .int (nI i))] 23 [.int (bI (decide (i < ot.length)))]
    refine tb_if_eq C dX11_out_23 (tgt := 35) (by decide) (fun chh => ?_) (fun chh => ?_)
    · skip
      refine tw_iconst C dX11_out_35 (v := (-1)) (by decide) ?_
      exact tw_ireturn C Q dX11_out_36 rfl rfl rfl ⟨by rw [bOL, if_neg (by rw [← nI_m1 hi]; exact cm), if_neg (of_decide_eq_false chh)], rfl⟩
    · have hlt := of_decide_eq_true chh
      refine tw_aload_n C dX11_out_26 0 rfl ?_
      refine tw_getR (q := 119) (k := 5) C dX11_out_27 fc_X11 sh_114 (hM 114 (by decide) (by decide)) rfl (by decide) wd_115 ?_
      refine tw_iload_n C dX11_out_30 1 rfl ?_
      refine tw_iald (v := nI (ot.getD i 0)) C dX11_out_31 sn_119 sa_119 (hM 119 (by decide) (by decide)) (by omega) (by decide) (hI.2.2.1.1 i (by omega)) ?_
      refine tw_goto C dX11_out_32 (tgt := 36) (by decide) ?_
      exact tw_ireturn C Q dX11_out_36 rfl rfl rfl ⟨by rw [bOL, if_neg (by rw [← nI_m1 hi]; exact cm), if_pos hlt], rfl⟩
  · skip
    refine tw_aload_n C dX11_out_5 0 rfl ?_
    refine tw_getI (v := nI ot.length) (k := 6) C dX11_out_6 fc_X11 sh_114 (hM 114 (by decide) (by decide)) rfl (by decide) wd_270 hI.2.2.1.2 ?_
    refine tw_goto C dX11_out_9 (tgt := 36) (by decide) ?_
    exact tw_ireturn C Q dX11_out_36 rfl rfl rfl ⟨by rw [bOL, if_pos ((nI_m1 hi).mp cm)], rfl⟩
theorem wA_self (S : tw_S) (r : Nat) : tw_wA S r (tw_A S r) = S := by
  obtain ⟨a, b, c, d, e⟩ := S
  simp only [tw_wA, Prod.mk.injEq, true_and, and_true]
  funext q j
  by_cases h : q = r
  · rw [if_pos h, h]; rfl
  · rw [if_neg h]
theorem wA_uA (S : tw_S) (r : Nat) (f : Nat → Int32) (i : Nat) (x : Int32) : tw_uA (tw_wA S r f) r i x = tw_wA S r (upd f i x) := by rw [tw_uA_wA, tw_wA_wA, tq_wA_same]
theorem c_X11_take {G : tw_G} (hM : tw_mG G) {S : tw_S} {K : kN} {tp ot : List Nat} {fr : List (List Nat)} {T : Nat → Int32} {hl : List mE} {ck wh dr la an : Nat} (hI : MI S K tp ot fr T hl ck wh dr la an) (hol : ot.length ≤ 640) : tw_M G yX11_take cX11_take 2 (some .int) 0 0 [.ref (tw_ad G 114)] S ri_I (fun v S' => v = nI ot.length ∧ MI S' K ot ot fr T hl ck wh dr la an) := by
  refine tw_M.of (L := [(0, .ref (tw_ad G 114))]) (by decide) (Nat.le_of_ble_eq_true rfl) rfl (fun X C N Q => ?_)
  have C : tw_C G X cX11_take RX11 := C
  have loop : ∀ (d : Nat) (k : Nat) (f : Nat → Int32) (_ : k + d = ot.length) (hf : ∀ i, i < k → f i = nI (ot.getD i 0)), TW G X (tw_wA S 118 f) [(1, .int (nI k)), (0, .ref (tw_ad G 114))] 2 [] := by
    intro d
    induction d with
    | zero =>
      intro k f hk hf
      refine tw_iload_n C dX11_take_2 0 rfl ?_
      refine tw_aload_n C dX11_take_3 1 rfl ?_
      refine tw_getI (v := nI ot.length) (k := 6) C dX11_take_4 fc_X11 sh_114 (hM 114 (by decide) (by decide)) rfl (by decide) wd_270 hI.2.2.1.2 ?_
      refine tn_icmp_ge C dX11_take_7 (tgt := 28) (by decide) (by omega) (by omega) (fun c1 => ?_) (fun c1 => ?_)
      · skip
        refine tw_aload_n C dX11_take_28 1 rfl ?_
        refine tw_aload_n C dX11_take_29 1 rfl ?_
        refine tw_getI (v := nI ot.length) (k := 6) C dX11_take_30 fc_X11 sh_114 (hM 114 (by decide) (by decide)) rfl (by decide) wd_270 hI.2.2.1.2 ?_
        refine tw_putI (k := 4) C dX11_take_33 fc_X11 sh_114 (hM 114 (by decide) (by decide)) rfl (by decide) rfl wd_189 rfl rfl ?_
        refine tw_aload_n C dX11_take_36 1 rfl ?_
        refine tw_getI (v := nI ot.length) (k := 4) C dX11_take_37 fc_X11 sh_114 (hM 114 (by decide) (by decide)) rfl (by decide) wd_189 rfl ?_
        exact tw_ireturn C Q dX11_take_40 rfl rfl rfl ⟨rfl, MI_tp (g := f) hI (fun i hi => hf i (by omega))⟩
      · exact absurd c1 (by omega)
    | succ d ih =>
      intro k f hk hf
      refine tw_iload_n C dX11_take_2 0 rfl ?_
      refine tw_aload_n C dX11_take_3 1 rfl ?_
      refine tw_getI (v := nI ot.length) (k := 6) C dX11_take_4 fc_X11 sh_114 (hM 114 (by decide) (by decide)) rfl (by decide) wd_270 hI.2.2.1.2 ?_
      refine tn_icmp_ge C dX11_take_7 (tgt := 28) (by decide) (by omega) (by omega) (fun c1 => ?_) (fun c1 => ?_)
      · exact absurd c1 (by omega)
      refine tw_aload_n C dX11_take_10 1 rfl ?_
      refine tw_getR (q := 118) (k := 3) C dX11_take_11 fc_X11 sh_114 (hM 114 (by decide) (by decide)) rfl (by decide) wd_114 ?_
      refine tw_iload_n C dX11_take_14 0 rfl ?_
      refine tw_aload_n C dX11_take_15 1 rfl ?_
      refine tw_getR (q := 119) (k := 5) C dX11_take_16 fc_X11 sh_114 (hM 114 (by decide) (by decide)) rfl (by decide) wd_115 ?_
      refine tw_iload_n C dX11_take_19 0 rfl ?_
      refine tw_iald (v := nI (ot.getD k 0)) C dX11_take_20 sn_119 sa_119 (hM 119 (by decide) (by decide)) (by omega) (by decide) (hI.2.2.1.1 k (by omega)) ?_
      refine tw_iast C dX11_take_21 sn_118 sa_118 (hM 118 (by decide) (by decide)) (by omega) (by decide) ?_
      refine tw_iinc (k := 0) (v := nI (k + 1)) (L' := [(1, .int (nI (k + 1))), (0, .ref (tw_ad G 114))]) C N dX11_take_22 rfl (tn_inc1 _) (by decide) rfl ?_
      refine tw_goto C dX11_take_25 (tgt := 2) (by decide) ?_
      rw [wA_uA]
      refine TW.c (L' := [(1, .int (nI (k + 1))), (0, .ref (tw_ad G 114))]) (by simp) ?_
      exact ih (k + 1) _ (by omega) (fun i hi => by
        by_cases hx : i = k
        · rw [hx]; simp [upd]
        · simp only [upd, hx, if_false]; exact hf i (by omega))
  refine tw_iconst C dX11_take_0 (v := nI 0) (by decide) ?_
  refine tw_istore_n (L' := [(1, .int (nI 0)), (0, .ref (tw_ad G 114))]) C N dX11_take_1 rfl (by decide) rfl ?_
  refine TW.sS (S' := tw_wA S 118 (tw_A S 118)) (wA_self S 118).symm ?_
  refine TW.c (L' := [(1, .int (nI 0)), (0, .ref (tw_ad G 114))]) (by simp) ?_
  exact loop ot.length 0 _ (by omega) (fun i hi => absurd hi (by omega))
