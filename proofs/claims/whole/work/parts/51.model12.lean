/-! what is read is unfolded: where reading stands (v: as if it never ended) -/
def pA (L v : Nat) : Nat := min v L
def pF (L v : Nat) : Nat := if v ≤ L then 0 else 1
def pP (L v : Nat) : Nat := if v ≤ L then 0 else L
def PU (B : tw_S) (f : Nat → Int32) (L v : Nat) : tw_S := tw_uI (tw_uI (tw_uI (tw_wA B 122 f) 114 20 (nI (pA L v))) 114 21 (nI (pF L v))) 114 22 (nI (pP L v))
theorem PU_f {B : tw_S} {f : Nat → Int32} {L v i : Nat} {x : Int32} : tw_uA (PU B f L v) 122 i x = PU B (upd f i x) L v := by
  simp only [PU, tw_uI, tw_uA, tw_wA, Prod.mk.injEq, true_and, and_true]
  funext q j
  by_cases h : q = 122
  · subst h
    by_cases h2 : j = i <;> simp [h2, upd]
  · simp [h]
theorem PU_uI {B : tw_S} {f : Nat → Int32} {L v k : Nat} {x : Int32} (h : k < 20 ∨ 22 < k) : tw_uI (PU B f L v) 114 k x = PU (tw_uI B 114 k x) f L v := by
  simp only [PU, tw_uI, tw_wA, Prod.mk.injEq, true_and, and_true]
  have h1 : k ≠ 20 := by omega
  have h2 : k ≠ 21 := by omega
  have h3 : k ≠ 22 := by omega
  funext q j
  by_cases h4 : q = 114 <;> by_cases h5 : j = k <;> simp [h4, h5, h1, h2, h3]
theorem PU_u3 {B : tw_S} {f : Nat → Int32} {L v i : Nat} {x : Int32} : tw_uA (PU B f L v) 123 i x = PU (tw_uA B 123 i x) f L v := by
  simp only [PU, tw_uI, tw_uA, tw_wA, Prod.mk.injEq, true_and, and_true]
  funext q j
  by_cases h : q = 122
  · subst h; simp
  · simp [h]
theorem PU_20 {B : tw_S} {f : Nat → Int32} {L v : Nat} (h : v < L) : tw_uI (PU B f L v) 114 20 (nI (v + 1)) = PU B f L (v + 1) := by
  have e1 : pA L (v + 1) = v + 1 := Nat.min_eq_left h
  have e2 : pF L (v + 1) = pF L v := by rw [pF, pF, if_pos (by omega), if_pos (by omega)]
  have e3 : pP L (v + 1) = pP L v := by rw [pP, pP, if_pos (by omega), if_pos (by omega)]
  simp only [PU, tw_uI, tw_wA, Prod.mk.injEq, true_and, and_true, e1, e2, e3]
  funext q j
  by_cases h4 : q = 114 <;> by_cases h5 : j = 20 <;> simp [h4, h5]
theorem PU_st {B : tw_S} {f : Nat → Int32} {L : Nat} : tw_uI (tw_uI (PU B f L L) 114 21 (nI 1)) 114 22 (nI L) = PU B f L (L + 1) := by
  have e1 : pA L (L + 1) = pA L L := by rw [pA, pA, Nat.min_eq_right (by omega), Nat.min_self]
  have e2 : pF L (L + 1) = 1 := by rw [pF, if_neg (by omega)]
  have e3 : pP L (L + 1) = L := by rw [pP, if_neg (by omega)]
  simp only [PU, tw_uI, tw_wA, Prod.mk.injEq, true_and, and_true, e1, e2, e3]
  funext q j
  by_cases h4 : q = 114 <;> by_cases h5 : j = 22 <;> by_cases h6 : j = 21 <;> simp [h4, h5, h6]
theorem PU_at {B : tw_S} {f : Nat → Int32} {L v : Nat} (h : L < v) : PU B f L v = PU B f L (v + 1) := by
  have e1 : pA L (v + 1) = pA L v := by rw [pA, pA, Nat.min_eq_right (by omega), Nat.min_eq_right (by omega)]
  have e2 : pF L (v + 1) = pF L v := by rw [pF, pF, if_neg (by omega), if_neg (by omega)]
  have e3 : pP L (v + 1) = pP L v := by rw [pP, pP, if_neg (by omega), if_neg (by omega)]
  simp only [PU, e1, e2, e3]
theorem PU_new {B : tw_S} {L : Nat} : tw_uI (tw_uI (tw_uI B 114 20 (nI 0)) 114 21 (nI 0)) 114 22 (nI 0) = PU B (tw_A B 122) L 0 := by
  have e1 : pA L 0 = 0 := Nat.zero_min L
  have e2 : pF L 0 = 0 := by rw [pF, if_pos (Nat.zero_le _)]
  have e3 : pP L 0 = 0 := by rw [pP, if_pos (Nat.zero_le _)]
  simp only [PU, e1, e2, e3, wA_self]
/-- from a on the array holds X -/
def BK (f : Nat → Int32) (a : Nat) (X : List Nat) : Prop := ∀ i, i < X.length → f (a + i) = nI (X.getD i 0)
theorem BK_nil (f : Nat → Int32) (a : Nat) : BK f a [] := fun i hi => absurd hi (by simp)
theorem BK_at {f : Nat → Int32} {a q b : Nat} {X : List Nat} (h : BK f a X) (e : q = a + X.length) : BK (upd f q (nI b)) a (X ++ [b]) := by
  intro i hi
  by_cases hx : i = X.length
  · subst hx; subst e
    simp [upd, List.getD_eq_getElem?_getD]
  · have h1 : i < X.length := by simp at hi; omega
    have e2 : (X ++ [b]).getD i 0 = X.getD i 0 := by simp [List.getD_eq_getElem?_getD, List.getElem?_append_left h1]
    rw [e2]
    simp only [upd, show ¬ a + i = q by omega, if_false]
    exact h i h1
theorem BK_st {f : Nat → Int32} {a k b : Nat} {X : List Nat} (h : BK f a (X.take k)) (hk : k < X.length) (e : X.getD k 0 = b) : BK (upd f (a + k) (nI b)) a (X.take (k + 1)) := by
  rw [List.take_succ, getD_some hk 0, e]
  exact BK_at h (by rw [List.length_take, Nat.min_eq_left (by omega)])
theorem BK_cg {f g : Nat → Int32} {a : Nat} {X : List Nat} (h : BK f a X) (e : ∀ q, a ≤ q → q < a + X.length → g q = f q) : BK g a X := fun i hi => (e (a + i) (by omega) (by omega)).trans (h i hi)
theorem BK_app {f : Nat → Int32} {a : Nat} {X Y : List Nat} (h : BK f a X) (g : BK f (a + X.length) Y) : BK f a (X ++ Y) := by
  intro i hi
  by_cases hx : i < X.length
  · rw [show (X ++ Y).getD i 0 = X.getD i 0 by simp [List.getD_eq_getElem?_getD, List.getElem?_append_left hx]]
    exact h i hx
  · have h1 := g (i - X.length) (by simp at hi; omega)
    rw [show a + X.length + (i - X.length) = a + i by omega] at h1
    rw [h1, show (X ++ Y).getD i 0 = Y.getD (i - X.length) 0 by simp [List.getD_eq_getElem?_getD, List.getElem?_append_right (Nat.le_of_not_lt hx)]]
theorem BK_take {f : Nat → Int32} {a : Nat} {X : List Nat} (h : BK f a X) (n : Nat) : BK f a (X.take n) := by
  intro i hi
  have h2 : i < X.length := by rw [List.length_take] at hi; omega
  have h3 : i < n := by rw [List.length_take] at hi; omega
  rw [h i h2]
  simp [List.getD_eq_getElem?_getD, List.getElem?_take, h3]
theorem BK_0 {f : Nat → Int32} {a n : Nat} (h : ∀ q, a ≤ q → q < a + n → f q = nI 0) : BK f a (List.replicate n 0) := by
  intro i hi
  rw [List.length_replicate] at hi
  rw [h (a + i) (by omega) (by omega)]
  simp [List.getD_eq_getElem?_getD, hi]
theorem be_gD {v n i : Nat} (h : i < n) : (be v n).getD i 0 = v / 2 ^ (8 * (n - 1 - i)) % 256 := by
  simp [be, List.getD_eq_getElem?_getD, h]
theorem cutD_gD {xs : List Nat} {a n i : Nat} (h : i < n) : (cutD xs a n).getD i 0 = xs.getD (a + i) 0 := by
  simp only [cutD, List.getD_eq_getElem?_getD, List.getElem?_map, List.getElem?_range h]; rfl
theorem gD_m {xs : List Nat} (hb : ∀ x ∈ xs, x < 256) (i : Nat) : xs.getD i 0 % 256 = xs.getD i 0 := Nat.mod_eq_of_lt (gD_lt hb i)
theorem be_sp {x y m n : Nat} (hy : y < 256 ^ n) : be (x * 256 ^ n + y) (m + n) = be x m ++ be y n := by
  apply List.ext_getElem?
  intro i
  have hp : (256 : Nat) ^ n = 2 ^ (8 * n) := by rw [Nat.pow_mul]
  by_cases h1 : i < m
  · rw [List.getElem?_append_left (by rw [be_len]; exact h1), getD_some (by rw [be_len]; omega) 0, getD_some (by rw [be_len]; exact h1) 0, be_gD (by omega), be_gD h1, show 8 * (m + n - 1 - i) = 8 * n + 8 * (m - 1 - i) by omega, Nat.pow_add, ← Nat.div_div_eq_div_mul, ← hp, Nat.mul_comm x, Nat.mul_add_div (Nat.pow_pos (by decide)), Nat.div_eq_of_lt hy, Nat.add_zero]
  · by_cases h2 : i < m + n
    · rw [List.getElem?_append_right (by rw [be_len]; omega), be_len, ← be_md (x := x) (n := n), getD_some (by rw [be_len]; omega) 0, getD_some (by rw [be_len]; omega) 0, be_gD h2, be_gD (by omega), show 8 * (m + n - 1 - i) = 8 * (n - 1 - (i - m)) by omega]
    · rw [List.getElem?_eq_none (by rw [be_len]; omega), List.getElem?_eq_none (by rw [List.length_append, be_len, be_len]; omega)]
theorem c_X11_fails {G : tw_G} (hM : tw_mG G) {S : tw_S} {w u : Nat} (hw : w < 8) (h21 : tw_I S 114 21 = nI 0) : tw_M G yX11_fails cX11_fails 3 (some .boolean) 0 0 [.ref (tw_ad G 114), .int (nI w), .int (nI u)] S ri_I (fun v S' => v = nI 0 ∧ S' = tw_uI (tw_uI S 114 21 (nI w)) 114 22 (nI u)) := by
  refine tw_M.of (L := [(0, .ref (tw_ad G 114)), (1, .int (nI w)), (2, .int (nI u))]) (by decide) (Nat.le_of_ble_eq_true rfl) rfl (fun X C N Q => ?_)
  have C : tw_C G X cX11_fails RX11 := C
  refine tw_aload_n C dX11_fails_0 0 rfl ?_
  refine tw_aload_n C dX11_fails_1 0 rfl ?_
  refine tw_getI (v := nI 0) (k := 21) C dX11_fails_2 fc_X11 sh_114 (hM 114 (by decide) (by decide)) rfl (by decide) wd_584 h21 ?_
  refine tn_if_ne C dX11_fails_5 (tgt := 12) (by decide) (by omega) (fun c1 => ?_) (fun c1 => ?_)
  · exact absurd c1 (by decide)
  refine tw_iload_n C dX11_fails_8 1 rfl ?_
  refine tw_goto C dX11_fails_9 (tgt := 16) (by decide) ?_
  refine tw_putI (k := 21) C dX11_fails_16 fc_X11 sh_114 (hM 114 (by decide) (by decide)) rfl (by decide) rfl wd_584 rfl rfl ?_
  refine tw_aload_n C dX11_fails_19 0 rfl ?_
  refine tw_aload_n C dX11_fails_20 0 rfl ?_
  refine tw_getI (v := nI w) (k := 21) C dX11_fails_21 fc_X11 sh_114 (hM 114 (by decide) (by decide)) rfl (by decide) wd_584 rfl ?_
  refine tw_iload_n C dX11_fails_24 1 rfl ?_
  refine tn_icmp_ne C dX11_fails_25 (tgt := 32) (by decide) (by omega) (by omega) (fun cw => ?_) (fun cw => ?_)
  · exact absurd rfl cw
  refine tw_iload_n C dX11_fails_28 2 rfl ?_
  refine tw_goto C dX11_fails_29 (tgt := 36) (by decide) ?_
  refine tw_putI (k := 22) C dX11_fails_36 fc_X11 sh_114 (hM 114 (by decide) (by decide)) rfl (by decide) rfl wd_586 rfl rfl ?_
  refine tw_iconst C dX11_fails_39 (v := nI 0) (by decide) ?_
  exact tw_ireturn C Q dX11_fails_40 rfl rfl rfl ⟨rfl, rfl⟩
theorem c_X11_next {G : tw_G} (hM : tw_mG G) {B : tw_S} {f : Nat → Int32} {bs : List Nat} (hB : LA (tw_A B 121) bs) (h19 : tw_I B 114 19 = nI bs.length) (hbl : bs.length ≤ 640) {v : Nat} : tw_M G yX11_next cX11_next 2 (some .int) 1 22 [.ref (tw_ad G 114)] ((PU B f bs.length v)) ri_I (fun x S' => x = nI (bs.getD v 0) ∧ S' = PU B f bs.length (v + 1)) := by
  refine tw_M.of (L := [(0, .ref (tw_ad G 114))]) (by decide) (Nat.le_of_ble_eq_true rfl) rfl (fun X C N Q => ?_)
  have C : tw_C G X cX11_next RX11 := C
  rcases (show v < bs.length ∨ v = bs.length ∨ bs.length < v by omega) with hv | hv | hv
  · skip
    refine tw_aload_n C dX11_next_0 0 rfl ?_
    refine tw_getI (v := nI v) (k := 20) C dX11_next_1 fc_X11 sh_114 (hM 114 (by decide) (by decide)) rfl (by decide) wd_592 (by show nI (pA bs.length v) = _; rw [pA, Nat.min_eq_left (by omega)]) ?_
    refine tw_aload_n C dX11_next_4 0 rfl ?_
    refine tw_getI (v := nI bs.length) (k := 19) C dX11_next_5 fc_X11 sh_114 (hM 114 (by decide) (by decide)) rfl (by decide) wd_582 h19 ?_
    refine tn_icmp_lt C dX11_next_8 (tgt := 30) (by decide) (by omega) (by omega) (fun c1 => ?_) (fun c1 => ?_)
    · skip
      refine tw_aload_n C dX11_next_30 0 rfl ?_
      refine tw_dup C dX11_next_31 rfl ?_
      refine tw_getI (v := nI v) (k := 20) C dX11_next_32 fc_X11 sh_114 (hM 114 (by decide) (by decide)) rfl (by decide) wd_592 (by show nI (pA bs.length v) = _; rw [pA, Nat.min_eq_left (by omega)]) ?_
      refine tw_iconst C dX11_next_35 (v := nI 1) (by decide) ?_
      refine tw_iadd C dX11_next_36 (v := nI (v + 1)) (nI_add _ _) ?_
      refine tw_putI (k := 20) C dX11_next_37 fc_X11 sh_114 (hM 114 (by decide) (by decide)) rfl (by decide) rfl wd_592 rfl rfl ?_
      refine TW.sS (S' := PU B f bs.length (v + 1)) (PU_20 hv) ?_
      refine tw_aload_n C dX11_next_40 0 rfl ?_
      refine tw_getR (q := 121) (k := 18) C dX11_next_41 fc_X11 sh_114 (hM 114 (by decide) (by decide)) rfl (by decide) wd_117 ?_
      refine tw_aload_n C dX11_next_44 0 rfl ?_
      refine tw_getI (v := nI (v + 1)) (k := 20) C dX11_next_45 fc_X11 sh_114 (hM 114 (by decide) (by decide)) rfl (by decide) wd_592 (by show nI (pA bs.length (v + 1)) = _; rw [pA, Nat.min_eq_left (by omega)]) ?_
      refine tw_iconst C dX11_next_48 (v := nI 1) (by decide) ?_
      refine tw_isub C dX11_next_49 (v := nI ((v + 1) - 1)) (pk_sub (by omega)) ?_
      refine tw_iald (v := nI (bs.getD ((v + 1) - 1) 0)) C dX11_next_50 sn_121 sa_121 (hM 121 (by decide) (by decide)) (by omega) (by decide) (hB ((v + 1) - 1) (by omega)) ?_
      exact tw_ireturn C Q dX11_next_51 rfl rfl rfl ⟨rfl, rfl⟩
    · exact absurd c1 (by omega)
  · have h21 : tw_I (PU B f bs.length v) 114 21 = nI 0 := by show nI (pF bs.length v) = _; rw [pF, if_pos (by omega)]
    refine tw_aload_n C dX11_next_0 0 rfl ?_
    refine tw_getI (v := nI v) (k := 20) C dX11_next_1 fc_X11 sh_114 (hM 114 (by decide) (by decide)) rfl (by decide) wd_592 (by show nI (pA bs.length v) = _; rw [pA, Nat.min_eq_left (by omega)]) ?_
    refine tw_aload_n C dX11_next_4 0 rfl ?_
    refine tw_getI (v := nI bs.length) (k := 19) C dX11_next_5 fc_X11 sh_114 (hM 114 (by decide) (by decide)) rfl (by decide) wd_582 h19 ?_
    refine tn_icmp_lt C dX11_next_8 (tgt := 30) (by decide) (by omega) (by omega) (fun c2 => ?_) (fun c2 => ?_)
    · exact absurd c2 (by omega)
    refine tw_aload_n C dX11_next_11 0 rfl ?_
    refine tw_getI (v := nI 0) (k := 21) C dX11_next_12 fc_X11 sh_114 (hM 114 (by decide) (by decide)) rfl (by decide) wd_584 h21 ?_
    refine tn_if_ne C dX11_next_15 (tgt := 28) (by decide) (by omega) (fun c3 => ?_) (fun c3 => ?_)
    · exact absurd c3 (by decide)
    refine tw_aload_n C dX11_next_18 0 rfl ?_
    refine tw_iconst C dX11_next_19 (v := nI 1) (by decide) ?_
    refine tw_aload_n C dX11_next_20 0 rfl ?_
    refine tw_getI (v := nI bs.length) (k := 19) C dX11_next_21 fc_X11 sh_114 (hM 114 (by decide) (by decide)) rfl (by decide) wd_582 h19 ?_
    refine tw_callV (As := [.int (nI 1), .int (nI bs.length)]) (rest := []) C N (c_X11_fails hM (S := PU B f bs.length v) (w := 1) (u := bs.length) (by omega) h21) mm_X11_fails wd_597 rfl (hM 114 (by decide) (by decide)) sh_114 rfl (by decide) rfl (Nat.le_of_ble_eq_true rfl) dX11_next_24 ?_
    rintro _ _ ⟨rfl, rfl⟩
    show TW G X (tw_uI (tw_uI (PU B f bs.length v) 114 21 (nI 1)) 114 22 (nI bs.length)) [(0, .ref (tw_ad G 114))] 27 [.int (nI 0)]
    refine tw_istore_n (L' := [(1, .int (nI 0)), (0, .ref (tw_ad G 114))]) C N dX11_next_27 rfl (by decide) rfl ?_
    refine tw_iconst C dX11_next_28 (v := nI 0) (by decide) ?_
    exact tw_ireturn C Q dX11_next_29 rfl rfl rfl ⟨by rw [getD_out (by omega)], by first | (subst hv; exact PU_st) | exact PU_at hv⟩
  · skip
    refine tw_aload_n C dX11_next_0 0 rfl ?_
    refine tw_getI (v := nI bs.length) (k := 20) C dX11_next_1 fc_X11 sh_114 (hM 114 (by decide) (by decide)) rfl (by decide) wd_592 (by show nI (pA bs.length v) = _; rw [pA, Nat.min_eq_right (by omega)]) ?_
    refine tw_aload_n C dX11_next_4 0 rfl ?_
    refine tw_getI (v := nI bs.length) (k := 19) C dX11_next_5 fc_X11 sh_114 (hM 114 (by decide) (by decide)) rfl (by decide) wd_582 h19 ?_
    refine tn_icmp_lt C dX11_next_8 (tgt := 30) (by decide) (by omega) (by omega) (fun c5 => ?_) (fun c5 => ?_)
    · exact absurd c5 (by omega)
    refine tw_aload_n C dX11_next_11 0 rfl ?_
    refine tw_getI (v := nI 1) (k := 21) C dX11_next_12 fc_X11 sh_114 (hM 114 (by decide) (by decide)) rfl (by decide) wd_584 (by show nI (pF bs.length v) = _; rw [pF, if_neg (by omega)]) ?_
    refine tn_if_ne C dX11_next_15 (tgt := 28) (by decide) (by omega) (fun c6 => ?_) (fun c6 => ?_)
    · skip
      refine tw_iconst C dX11_next_28 (v := nI 0) (by decide) ?_
      exact tw_ireturn C Q dX11_next_29 rfl rfl rfl ⟨by rw [getD_out (by omega)], by first | (subst hv; exact PU_st) | exact PU_at hv⟩
    · exact absurd c6 (by decide)
theorem c_X11_set {G : tw_G} (hM : tw_mG G) {B : tw_S} {f : Nat → Int32} {L v i x : Nat} (hi : i < 800) : tw_M G yX11_set cX11_set 3 none 0 0 [.ref (tw_ad G 114), .int (nI i), .int (nI x)] ((PU B f L v)) ri_V (fun _ S' => S' = PU B (upd f i (nI (x % 256))) L v) := by
  refine tw_M.of (L := [(0, .ref (tw_ad G 114)), (1, .int (nI i)), (2, .int (nI x))]) (by decide) (Nat.le_of_ble_eq_true rfl) rfl (fun X C N Q => ?_)
  have C : tw_C G X cX11_set RX11 := C
  refine tw_aload_n C dX11_set_0 0 rfl ?_
  refine tw_getR (q := 122) (k := 23) C dX11_set_1 fc_X11 sh_114 (hM 114 (by decide) (by decide)) rfl (by decide) wd_118 ?_
  refine tw_iload_n C dX11_set_4 1 rfl ?_
  refine tw_iload_n C dX11_set_5 2 rfl ?_
  refine tw_sipush C dX11_set_6 (v := nI 255) (by decide) ?_
  refine tw_iand C dX11_set_9 (v := nI (x % 256)) (nI_andm 8 (by decide)) ?_
  refine tw_iast C dX11_set_10 sn_122 sa_122 (hM 122 (by decide) (by decide)) (by omega) (by decide) ?_
  refine TW.sS (S' := PU B (upd f i (nI (x % 256))) L v) PU_f ?_
  exact tw_return (v := ()) C Q dX11_set_11 rfl rfl rfl
theorem c_X11_plain {G : tw_G} (hM : tw_mG G) {B : tw_S} {f : Nat → Int32} {bs : List Nat} {v t : Nat} (ht : t < 700) : tw_M G yX11_plain cX11_plain 2 none 1 22 [.ref (tw_ad G 114), .int (nI t)] ((PU B f bs.length v)) ri_V (fun _ S' => S' = PU B (upd (upd f t (nI (254 % 256))) (t + 1) (nI (128 % 256))) bs.length v) := by
  refine tw_M.of (L := [(0, .ref (tw_ad G 114)), (1, .int (nI t))]) (by decide) (Nat.le_of_ble_eq_true rfl) rfl (fun X C N Q => ?_)
  have C : tw_C G X cX11_plain RX11 := C
  refine tw_aload_n C dX11_plain_0 0 rfl ?_
  refine tw_iload_n C dX11_plain_1 1 rfl ?_
  refine tw_sipush C dX11_plain_2 (v := nI 254) (by decide) ?_
  refine tw_callV (As := [.int (nI t), .int (nI 254)]) (rest := []) C N (c_X11_set hM (B := B) (f := f) (L := bs.length) (v := v) (i := t) (x := 254) (by omega)) mm_X11_set wd_605 rfl (hM 114 (by decide) (by decide)) sh_114 rfl (by decide) rfl (Nat.le_of_ble_eq_true rfl) dX11_plain_5 ?_
  rintro _ _ rfl
  show TW G X (PU B (upd f t (nI (254 % 256))) bs.length v) [(0, .ref (tw_ad G 114)), (1, .int (nI t))] 8 []
  refine tw_aload_n C dX11_plain_8 0 rfl ?_
  refine tw_iload_n C dX11_plain_9 1 rfl ?_
  refine tw_iconst C dX11_plain_10 (v := nI 1) (by decide) ?_
  refine tw_iadd C dX11_plain_11 (v := nI (t + 1)) (nI_add _ _) ?_
  refine tw_sipush C dX11_plain_12 (v := nI 128) (by decide) ?_
  refine tw_callV (As := [.int (nI (t + 1)), .int (nI 128)]) (rest := []) C N (c_X11_set hM (B := B) (f := (upd f t (nI (254 % 256)))) (L := bs.length) (v := v) (i := t + 1) (x := 128) (by omega)) mm_X11_set wd_605 rfl (hM 114 (by decide) (by decide)) sh_114 rfl (by decide) rfl (Nat.le_of_ble_eq_true rfl) dX11_plain_15 ?_
  rintro _ _ rfl
  show TW G X (PU B (upd (upd f t (nI (254 % 256))) (t + 1) (nI (128 % 256))) bs.length v) [(0, .ref (tw_ad G 114)), (1, .int (nI t))] 18 []
  exact tw_return (v := ()) C Q dX11_plain_18 rfl rfl rfl
theorem c_X11_fromContext {G : tw_G} (hM : tw_mG G) {B : tw_S} {K : kN} (hK : mK B K) {f : Nat → Int32} {bs : List Nat} {v t c : Nat} (ht : t < 700) (hc : c < 16) : tw_M G yX11_fromContext cX11_fromContext 4 none 1 22 [.ref (tw_ad G 114), .int (nI t), .int (nI c)] ((PU B f bs.length v)) ri_V (fun _ S' => ∃ g, S' = PU B g bs.length v ∧ BK g t (be (kV K c) 8) ∧ ∀ q, q < t ∨ t + 8 ≤ q → g q = f q) := by
  refine tw_M.of (L := [(0, .ref (tw_ad G 114)), (1, .int (nI t)), (2, .int (nI c))]) (by decide) (Nat.le_of_ble_eq_true rfl) rfl (fun X C N Q => ?_)
  have C : tw_C G X cX11_fromContext RX11 := C
  have loop : ∀ (d : Nat) (k : Nat) (g : Nat → Int32) (_ : k + d = 8) (h1 : BK g t ((be (kV K c) 8).take k)) (h2 : ∀ q, q < t ∨ t + 8 ≤ q → g q = f q), TW G X (PU B g bs.length v) [(3, .int (nI k)), (0, .ref (tw_ad G 114)), (1, .int (nI t)), (2, .int (nI c))] 2 [] := by
    intro d
    induction d with
    | zero =>
      intro k g hk h1 h2
      refine tw_iload_n C dX11_fromContext_2 0 rfl ?_
      refine tw_bipush C dX11_fromContext_3 (v := nI 8) (by decide) ?_
      refine tn_icmp_ge C dX11_fromContext_5 (tgt := 32) (by decide) (by omega) (by omega) (fun c1 => ?_) (fun c1 => ?_)
      · skip
        exact tw_return (v := ()) C Q dX11_fromContext_32 rfl rfl ⟨g, rfl, by rw [show k = 8 by omega, be_all] at h1; exact h1, h2⟩
      · exact absurd c1 (by omega)
    | succ d ih =>
      intro k g hk h1 h2
      refine tw_iload_n C dX11_fromContext_2 0 rfl ?_
      refine tw_bipush C dX11_fromContext_3 (v := nI 8) (by decide) ?_
      refine tn_icmp_ge C dX11_fromContext_5 (tgt := 32) (by decide) (by omega) (by omega) (fun c1 => ?_) (fun c1 => ?_)
      · exact absurd c1 (by omega)
      refine tw_aload_n C dX11_fromContext_8 1 rfl ?_
      refine tw_iload_n C dX11_fromContext_9 2 rfl ?_
      refine tw_iload_n C dX11_fromContext_10 0 rfl ?_
      refine tw_iadd C dX11_fromContext_11 (v := nI (t + k)) (nI_add _ _) ?_
      refine tw_aload_n C dX11_fromContext_12 1 rfl ?_
      refine tw_getR (q := 116) (k := 1) C dX11_fromContext_13 fc_X11 sh_114 (hM 114 (by decide) (by decide)) rfl (by decide) wd_112 ?_
      refine tw_bipush C dX11_fromContext_16 (v := nI 8) (by decide) ?_
      refine tw_iload_n C dX11_fromContext_18 3 rfl ?_
      refine tw_imul C dX11_fromContext_19 (v := nI (8 * c)) (pk_mul _ _) ?_
      refine tw_iload_n C dX11_fromContext_20 0 rfl ?_
      refine tw_iadd C dX11_fromContext_21 (v := nI ((8 * c) + k)) (nI_add _ _) ?_
      refine tw_iald (v := nI (kV K c / 2 ^ (56 - 8 * k) % 256)) C dX11_fromContext_22 sn_116 sa_116 (hM 116 (by decide) (by decide)) (by omega) (by decide) (hK.2.1 c k hc (by omega)) ?_
      refine tw_callV (As := [.int (nI (t + k)), .int (nI (kV K c / 2 ^ (56 - 8 * k) % 256))]) (rest := []) C N (c_X11_set hM (B := B) (f := g) (L := bs.length) (v := v) (i := t + k) (x := kV K c / 2 ^ (56 - 8 * k) % 256) (by omega)) mm_X11_set wd_605 rfl (hM 114 (by decide) (by decide)) sh_114 rfl (by decide) rfl (Nat.le_of_ble_eq_true rfl) dX11_fromContext_23 ?_
      rintro _ _ rfl
      show TW G X (PU B (upd g (t + k) (nI ((kV K c / 2 ^ (56 - 8 * k) % 256) % 256))) bs.length v) [(3, .int (nI k)), (0, .ref (tw_ad G 114)), (1, .int (nI t)), (2, .int (nI c))] 26 []
      refine tw_iinc (k := 0) (v := nI (k + 1)) (L' := [(3, .int (nI (k + 1))), (0, .ref (tw_ad G 114)), (1, .int (nI t)), (2, .int (nI c))]) C N dX11_fromContext_26 rfl (tn_inc1 _) (by decide) rfl ?_
      refine tw_goto C dX11_fromContext_29 (tgt := 2) (by decide) ?_
      refine TW.c (L' := [(3, .int (nI (k + 1))), (0, .ref (tw_ad G 114)), (1, .int (nI t)), (2, .int (nI c))]) (by simp) ?_
      exact ih (k + 1) _ (by omega) (BK_st h1 (by rw [be_len]; omega) (by rw [be_gD (by omega), show 8 * (8 - 1 - k) = 56 - 8 * k by omega, Nat.mod_mod])) (fun q hq => by simp only [upd, show ¬ q = t + k by omega, if_false]; exact h2 q hq)
  refine tw_iconst C dX11_fromContext_0 (v := nI 0) (by decide) ?_
  refine tw_istore_n (L' := [(3, .int (nI 0)), (0, .ref (tw_ad G 114)), (1, .int (nI t)), (2, .int (nI c))]) C N dX11_fromContext_1 rfl (by decide) rfl ?_
  exact loop 8 0 f rfl (BK_nil _ _) (fun q _ => rfl)
def lP8 (K : kN) (m w : Nat) : List Nat := if m = 3 then be (kO K w) 8 else [0, 0, 0, 255, 254, 0, 0, 0]
theorem lP8_len (K : kN) (m w : Nat) : (lP8 K m w).length = 8 := by
  unfold lP8
  split
  · exact be_len _ _
  · rfl
theorem lP8_n : ∀ k, k < 8 → [0, 0, 0, 255, 254, 0, 0, 0].getD k 0 = if k = 3 then 255 else if k = 4 then 254 else 0 := by decide
theorem lsS_le (m : Nat) : 8 ≤ lsS m ∧ lsS m ≤ 16 := by
  unfold lsS
  split
  · decide
  · split <;> decide
theorem c_X11_lasts {G : tw_G} (hM : tw_mG G) {K : kN} {B : tw_S} {f : Nat → Int32} {bs : List Nat} (hB : LA (tw_A B 121) bs) (h19 : tw_I B 114 19 = nI bs.length) (hbl : bs.length ≤ 640) {v : Nat} (hbb : ∀ x ∈ bs, x < 256) (hK : mK B K) {t m w : Nat} (ht : t < 700) (hm : m < 4) (hw : w < 2) : tw_M G yX11_lasts cX11_lasts 5 none 2 43 [.ref (tw_ad G 114), .int (nI t), .int (nI m), .int (nI w)] ((PU B f bs.length v)) ri_V (fun _ S' => ∃ g, S' = PU B g bs.length (v + (16 - lsS m)) ∧ BK g (t + 8) ((lP8 K m w).take (lsS m - 8) ++ cutD bs v (16 - lsS m)) ∧ ∀ q, q < t + 8 ∨ t + 16 ≤ q → g q = f q) := by
  refine tw_M.of (L := [(0, .ref (tw_ad G 114)), (1, .int (nI t)), (2, .int (nI m)), (3, .int (nI w))]) (by decide) (Nat.le_of_ble_eq_true rfl) rfl (fun X C N Q => ?_)
  have C : tw_C G X cX11_lasts RX11 := C
  have loop2 : ∀ (d : Nat) (j : Nat) (g : Nat → Int32) (_ : lsS m + j + d = 16) (h1 : BK g (t + 8) ((lP8 K m w).take (lsS m - 8) ++ cutD bs v j)) (h2 : ∀ q, q < t + 8 ∨ t + 16 ≤ q → g q = f q), TW G X (PU B g bs.length (v + j)) [(4, .int (nI (lsS m + j))), (0, .ref (tw_ad G 114)), (1, .int (nI t)), (2, .int (nI m)), (3, .int (nI w))] 96 [] := by
    intro d
    induction d with
    | zero =>
      intro j g hj h1 h2
      have hls := lsS_le m
      refine tw_iload C dX11_lasts_96 0 rfl ?_
      refine tw_bipush C dX11_lasts_98 (v := nI 16) (by decide) ?_
      refine tn_icmp_ge C dX11_lasts_100 (tgt := 121) (by decide) (by omega) (by omega) (fun c1 => ?_) (fun c1 => ?_)
      · skip
        exact tw_return (v := ()) C Q dX11_lasts_121 rfl rfl ⟨g, by rw [show 16 - lsS m = j by omega], by rw [show 16 - lsS m = j by omega]; exact h1, h2⟩
      · exact absurd c1 (by omega)
    | succ d ih =>
      intro j g hj h1 h2
      have hls := lsS_le m
      refine tw_iload C dX11_lasts_96 0 rfl ?_
      refine tw_bipush C dX11_lasts_98 (v := nI 16) (by decide) ?_
      refine tn_icmp_ge C dX11_lasts_100 (tgt := 121) (by decide) (by omega) (by omega) (fun c1 => ?_) (fun c1 => ?_)
      · exact absurd c1 (by omega)
      refine tw_aload_n C dX11_lasts_103 1 rfl ?_
      refine tw_iload_n C dX11_lasts_104 2 rfl ?_
      refine tw_iload C dX11_lasts_105 0 rfl ?_
      refine tw_iadd C dX11_lasts_107 (v := nI (t + (lsS m + j))) (nI_add _ _) ?_
      refine tw_aload_n C dX11_lasts_108 1 rfl ?_
      refine tw_callV (As := []) (rest := [.int (nI (t + (lsS m + j))), .ref (tw_ad G 114)]) C N (c_X11_next hM (B := B) (f := g) (bs := bs) (v := (v + j)) hB h19 hbl) mm_X11_next wd_593 rfl (hM 114 (by decide) (by decide)) sh_114 rfl (by decide) rfl (Nat.le_of_ble_eq_true rfl) dX11_lasts_109 ?_
      rintro _ _ ⟨rfl, rfl⟩
      show TW G X (PU B g bs.length ((v + j) + 1)) [(4, .int (nI (lsS m + j))), (0, .ref (tw_ad G 114)), (1, .int (nI t)), (2, .int (nI m)), (3, .int (nI w))] 112 [.int (nI (bs.getD (v + j) 0)), .int (nI (t + (lsS m + j))), .ref (tw_ad G 114)]
      refine tw_callV (As := [.int (nI (t + (lsS m + j))), .int (nI (bs.getD (v + j) 0))]) (rest := []) C N (c_X11_set hM (B := B) (f := g) (L := bs.length) (v := ((v + j) + 1)) (i := t + (lsS m + j)) (x := bs.getD (v + j) 0) (by omega)) mm_X11_set wd_605 rfl (hM 114 (by decide) (by decide)) sh_114 rfl (by decide) rfl (Nat.le_of_ble_eq_true rfl) dX11_lasts_112 ?_
      rintro _ _ rfl
      show TW G X (PU B (upd g (t + (lsS m + j)) (nI ((bs.getD (v + j) 0) % 256))) bs.length ((v + j) + 1)) [(4, .int (nI (lsS m + j))), (0, .ref (tw_ad G 114)), (1, .int (nI t)), (2, .int (nI m)), (3, .int (nI w))] 115 []
      refine tw_iinc (k := 0) (v := nI (lsS m + j + 1)) (L' := [(4, .int (nI (lsS m + j + 1))), (0, .ref (tw_ad G 114)), (1, .int (nI t)), (2, .int (nI m)), (3, .int (nI w))]) C N dX11_lasts_115 rfl (tn_inc1 _) (by decide) rfl ?_
      refine tw_goto C dX11_lasts_118 (tgt := 96) (by decide) ?_
      refine TW.c (L' := [(4, .int (nI (lsS m + (j + 1)))), (0, .ref (tw_ad G 114)), (1, .int (nI t)), (2, .int (nI m)), (3, .int (nI w))]) (by simp [Nat.add_assoc]) ?_
      exact ih (j + 1) _ (by omega) (by rw [cutD_succ, ← List.append_assoc, gD_m hbb]; exact BK_at h1 (by rw [List.length_append, List.length_take, lP8_len, cutD_len]; omega)) (fun q hq => by simp only [upd, show ¬ q = t + (lsS m + j) by omega, if_false]; exact h2 q hq)
  have loop : ∀ (d : Nat) (k : Nat) (g : Nat → Int32) (_ : k + d = 8) (h1 : BK g (t + 8) ((lP8 K m w).take k)) (h2 : ∀ q, q < t + 8 ∨ t + 16 ≤ q → g q = f q), TW G X (PU B g bs.length v) [(4, .int (nI k)), (0, .ref (tw_ad G 114)), (1, .int (nI t)), (2, .int (nI m)), (3, .int (nI w))] 3 [] := by
    intro d
    induction d with
    | zero =>
      intro k g hk h1 h2
      refine tw_iload C dX11_lasts_3 0 rfl ?_
      refine tw_bipush C dX11_lasts_5 (v := nI 8) (by decide) ?_
      refine tn_icmp_ge C dX11_lasts_7 (tgt := 72) (by decide) (by omega) (by omega) (fun c1 => ?_) (fun c1 => ?_)
      · skip
        rw [List.take_of_length_le (by rw [lP8_len]; omega)] at h1
        refine tw_iload_n C dX11_lasts_72 3 rfl ?_
        refine tw_iconst C dX11_lasts_73 (v := nI 1) (by decide) ?_
        refine tn_icmp_ne C dX11_lasts_74 (tgt := 82) (by decide) (by omega) (by omega) (fun c2 => ?_) (fun c2 => ?_)
        · skip
          refine tw_iload_n C dX11_lasts_82 3 rfl ?_
          refine tw_iconst C dX11_lasts_83 (v := nI 2) (by decide) ?_
          refine tn_icmp_ne C dX11_lasts_84 (tgt := 92) (by decide) (by omega) (by omega) (fun c3 => ?_) (fun c3 => ?_)
          · skip
            refine tw_bipush C dX11_lasts_92 (v := nI 16) (by decide) ?_
            refine tw_istore (L' := [(4, .int (nI 16)), (0, .ref (tw_ad G 114)), (1, .int (nI t)), (2, .int (nI m)), (3, .int (nI w))]) C N dX11_lasts_94 (i := 4) (by decide) rfl ?_
            have hs0 : lsS m = 16 := by rw [lsS, if_neg (by omega), if_neg (by omega)]
            refine TW.c (L' := [(4, .int (nI (lsS m + 0))), (0, .ref (tw_ad G 114)), (1, .int (nI t)), (2, .int (nI m)), (3, .int (nI w))]) (by rw [hs0]; simp) ?_
            exact loop2 (16 - lsS m) 0 g (by omega) (by have h3 := BK_take h1 (lsS m - 8); rw [show cutD bs v 0 = [] from rfl, List.append_nil]; exact h3) h2
          · skip
            refine tw_bipush C dX11_lasts_87 (v := nI 14) (by decide) ?_
            refine tw_goto C dX11_lasts_89 (tgt := 94) (by decide) ?_
            refine tw_istore (L' := [(4, .int (nI 14)), (0, .ref (tw_ad G 114)), (1, .int (nI t)), (2, .int (nI m)), (3, .int (nI w))]) C N dX11_lasts_94 (i := 4) (by decide) rfl ?_
            have hs0 : lsS m = 14 := by rw [lsS, if_neg (by omega), if_pos (by omega)]
            refine TW.c (L' := [(4, .int (nI (lsS m + 0))), (0, .ref (tw_ad G 114)), (1, .int (nI t)), (2, .int (nI m)), (3, .int (nI w))]) (by rw [hs0]; simp) ?_
            exact loop2 (16 - lsS m) 0 g (by omega) (by have h3 := BK_take h1 (lsS m - 8); rw [show cutD bs v 0 = [] from rfl, List.append_nil]; exact h3) h2
        · skip
          refine tw_bipush C dX11_lasts_77 (v := nI 8) (by decide) ?_
          refine tw_goto C dX11_lasts_79 (tgt := 94) (by decide) ?_
          refine tw_istore (L' := [(4, .int (nI 8)), (0, .ref (tw_ad G 114)), (1, .int (nI t)), (2, .int (nI m)), (3, .int (nI w))]) C N dX11_lasts_94 (i := 4) (by decide) rfl ?_
          have hs0 : lsS m = 8 := by rw [lsS, if_pos (by omega)]
          refine TW.c (L' := [(4, .int (nI (lsS m + 0))), (0, .ref (tw_ad G 114)), (1, .int (nI t)), (2, .int (nI m)), (3, .int (nI w))]) (by rw [hs0]; simp) ?_
          exact loop2 (16 - lsS m) 0 g (by omega) (by have h3 := BK_take h1 (lsS m - 8); rw [show cutD bs v 0 = [] from rfl, List.append_nil]; exact h3) h2
      · exact absurd c1 (by omega)
    | succ d ih =>
      intro k g hk h1 h2
      refine tw_iload C dX11_lasts_3 0 rfl ?_
      refine tw_bipush C dX11_lasts_5 (v := nI 8) (by decide) ?_
      refine tn_icmp_ge C dX11_lasts_7 (tgt := 72) (by decide) (by omega) (by omega) (fun c1 => ?_) (fun c1 => ?_)
      · exact absurd c1 (by omega)
      refine tw_aload_n C dX11_lasts_10 1 rfl ?_
      refine tw_iload_n C dX11_lasts_11 2 rfl ?_
      refine tw_bipush C dX11_lasts_12 (v := nI 8) (by decide) ?_
      refine tw_iadd C dX11_lasts_14 (v := nI (t + 8)) (nI_add _ _) ?_
      refine tw_iload C dX11_lasts_15 0 rfl ?_
      refine tw_iadd C dX11_lasts_17 (v := nI ((t + 8) + k)) (nI_add _ _) ?_
      refine tw_iload_n C dX11_lasts_18 3 rfl ?_
      refine tw_iconst C dX11_lasts_19 (v := nI 3) (by decide) ?_
      refine tn_icmp_ne C dX11_lasts_20 (tgt := 38) (by decide) (by omega) (by omega) (fun c2 => ?_) (fun c2 => ?_)
      · skip
        refine tw_iload C dX11_lasts_38 0 rfl ?_
        refine tw_iconst C dX11_lasts_40 (v := nI 3) (by decide) ?_
        refine tn_icmp_ne C dX11_lasts_41 (tgt := 50) (by decide) (by omega) (by omega) (fun c3 => ?_) (fun c3 => ?_)
        · skip
          refine tw_iload C dX11_lasts_50 0 rfl ?_
          refine tw_iconst C dX11_lasts_52 (v := nI 4) (by decide) ?_
          refine tn_icmp_ne C dX11_lasts_53 (tgt := 62) (by decide) (by omega) (by omega) (fun c4 => ?_) (fun c4 => ?_)
          · skip
            refine tw_iconst C dX11_lasts_62 (v := nI 0) (by decide) ?_
            refine tw_callV (As := [.int (nI ((t + 8) + k)), .int (nI 0)]) (rest := []) C N (c_X11_set hM (B := B) (f := g) (L := bs.length) (v := v) (i := (t + 8) + k) (x := 0) (by omega)) mm_X11_set wd_605 rfl (hM 114 (by decide) (by decide)) sh_114 rfl (by decide) rfl (Nat.le_of_ble_eq_true rfl) dX11_lasts_63 ?_
            rintro _ _ rfl
            show TW G X (PU B (upd g ((t + 8) + k) (nI (0 % 256))) bs.length v) [(4, .int (nI k)), (0, .ref (tw_ad G 114)), (1, .int (nI t)), (2, .int (nI m)), (3, .int (nI w))] 66 []
            refine tw_iinc (k := 0) (v := nI (k + 1)) (L' := [(4, .int (nI (k + 1))), (0, .ref (tw_ad G 114)), (1, .int (nI t)), (2, .int (nI m)), (3, .int (nI w))]) C N dX11_lasts_66 rfl (tn_inc1 _) (by decide) rfl ?_
            refine tw_goto C dX11_lasts_69 (tgt := 3) (by decide) ?_
            refine TW.c (L' := [(4, .int (nI (k + 1))), (0, .ref (tw_ad G 114)), (1, .int (nI t)), (2, .int (nI m)), (3, .int (nI w))]) (by simp) ?_
            exact ih (k + 1) _ (by omega) (BK_st h1 (by rw [lP8_len]; omega) (by rw [lP8, if_neg (by omega), lP8_n k (by omega), if_neg (by omega), if_neg (by omega)])) (fun q hq => by simp only [upd, show ¬ q = t + 8 + k by omega, if_false]; exact h2 q hq)
          · skip
            refine tw_sipush C dX11_lasts_56 (v := nI 254) (by decide) ?_
            refine tw_goto C dX11_lasts_59 (tgt := 63) (by decide) ?_
            refine tw_callV (As := [.int (nI ((t + 8) + k)), .int (nI 254)]) (rest := []) C N (c_X11_set hM (B := B) (f := g) (L := bs.length) (v := v) (i := (t + 8) + k) (x := 254) (by omega)) mm_X11_set wd_605 rfl (hM 114 (by decide) (by decide)) sh_114 rfl (by decide) rfl (Nat.le_of_ble_eq_true rfl) dX11_lasts_63 ?_
            rintro _ _ rfl
            show TW G X (PU B (upd g ((t + 8) + k) (nI (254 % 256))) bs.length v) [(4, .int (nI k)), (0, .ref (tw_ad G 114)), (1, .int (nI t)), (2, .int (nI m)), (3, .int (nI w))] 66 []
            refine tw_iinc (k := 0) (v := nI (k + 1)) (L' := [(4, .int (nI (k + 1))), (0, .ref (tw_ad G 114)), (1, .int (nI t)), (2, .int (nI m)), (3, .int (nI w))]) C N dX11_lasts_66 rfl (tn_inc1 _) (by decide) rfl ?_
            refine tw_goto C dX11_lasts_69 (tgt := 3) (by decide) ?_
            refine TW.c (L' := [(4, .int (nI (k + 1))), (0, .ref (tw_ad G 114)), (1, .int (nI t)), (2, .int (nI m)), (3, .int (nI w))]) (by simp) ?_
            exact ih (k + 1) _ (by omega) (BK_st h1 (by rw [lP8_len]; omega) (by rw [lP8, if_neg (by omega), lP8_n k (by omega), if_neg (by omega), if_pos (by omega)])) (fun q hq => by simp only [upd, show ¬ q = t + 8 + k by omega, if_false]; exact h2 q hq)
        · skip
          refine tw_sipush C dX11_lasts_44 (v := nI 255) (by decide) ?_
          refine tw_goto C dX11_lasts_47 (tgt := 63) (by decide) ?_
          refine tw_callV (As := [.int (nI ((t + 8) + k)), .int (nI 255)]) (rest := []) C N (c_X11_set hM (B := B) (f := g) (L := bs.length) (v := v) (i := (t + 8) + k) (x := 255) (by omega)) mm_X11_set wd_605 rfl (hM 114 (by decide) (by decide)) sh_114 rfl (by decide) rfl (Nat.le_of_ble_eq_true rfl) dX11_lasts_63 ?_
          rintro _ _ rfl
          show TW G X (PU B (upd g ((t + 8) + k) (nI (255 % 256))) bs.length v) [(4, .int (nI k)), (0, .ref (tw_ad G 114)), (1, .int (nI t)), (2, .int (nI m)), (3, .int (nI w))] 66 []
          refine tw_iinc (k := 0) (v := nI (k + 1)) (L' := [(4, .int (nI (k + 1))), (0, .ref (tw_ad G 114)), (1, .int (nI t)), (2, .int (nI m)), (3, .int (nI w))]) C N dX11_lasts_66 rfl (tn_inc1 _) (by decide) rfl ?_
          refine tw_goto C dX11_lasts_69 (tgt := 3) (by decide) ?_
          refine TW.c (L' := [(4, .int (nI (k + 1))), (0, .ref (tw_ad G 114)), (1, .int (nI t)), (2, .int (nI m)), (3, .int (nI w))]) (by simp) ?_
          exact ih (k + 1) _ (by omega) (BK_st h1 (by rw [lP8_len]; omega) (by rw [lP8, if_neg (by omega), lP8_n k (by omega), if_pos (by omega)])) (fun q hq => by simp only [upd, show ¬ q = t + 8 + k by omega, if_false]; exact h2 q hq)
      · skip
        refine tw_aload_n C dX11_lasts_23 1 rfl ?_
        refine tw_getR (q := 117) (k := 2) C dX11_lasts_24 fc_X11 sh_114 (hM 114 (by decide) (by decide)) rfl (by decide) wd_113 ?_
        refine tw_bipush C dX11_lasts_27 (v := nI 8) (by decide) ?_
        refine tw_iload_n C dX11_lasts_29 4 rfl ?_
        refine tw_imul C dX11_lasts_30 (v := nI (8 * w)) (pk_mul _ _) ?_
        refine tw_iload C dX11_lasts_31 0 rfl ?_
        refine tw_iadd C dX11_lasts_33 (v := nI ((8 * w) + k)) (nI_add _ _) ?_
        refine tw_iald (v := nI (kO K w / 2 ^ (56 - 8 * k) % 256)) C dX11_lasts_34 sn_117 sa_117 (hM 117 (by decide) (by decide)) (by omega) (by decide) (hK.2.2.1 w k hw (by omega)) ?_
        refine tw_goto C dX11_lasts_35 (tgt := 63) (by decide) ?_
        refine tw_callV (As := [.int (nI ((t + 8) + k)), .int (nI (kO K w / 2 ^ (56 - 8 * k) % 256))]) (rest := []) C N (c_X11_set hM (B := B) (f := g) (L := bs.length) (v := v) (i := (t + 8) + k) (x := kO K w / 2 ^ (56 - 8 * k) % 256) (by omega)) mm_X11_set wd_605 rfl (hM 114 (by decide) (by decide)) sh_114 rfl (by decide) rfl (Nat.le_of_ble_eq_true rfl) dX11_lasts_63 ?_
        rintro _ _ rfl
        show TW G X (PU B (upd g ((t + 8) + k) (nI ((kO K w / 2 ^ (56 - 8 * k) % 256) % 256))) bs.length v) [(4, .int (nI k)), (0, .ref (tw_ad G 114)), (1, .int (nI t)), (2, .int (nI m)), (3, .int (nI w))] 66 []
        refine tw_iinc (k := 0) (v := nI (k + 1)) (L' := [(4, .int (nI (k + 1))), (0, .ref (tw_ad G 114)), (1, .int (nI t)), (2, .int (nI m)), (3, .int (nI w))]) C N dX11_lasts_66 rfl (tn_inc1 _) (by decide) rfl ?_
        refine tw_goto C dX11_lasts_69 (tgt := 3) (by decide) ?_
        refine TW.c (L' := [(4, .int (nI (k + 1))), (0, .ref (tw_ad G 114)), (1, .int (nI t)), (2, .int (nI m)), (3, .int (nI w))]) (by simp) ?_
        exact ih (k + 1) _ (by omega) (BK_st h1 (by rw [lP8_len]; omega) (by rw [lP8, if_pos (by omega), be_gD (by omega), show 8 * (8 - 1 - k) = 56 - 8 * k by omega, Nat.mod_mod])) (fun q hq => by simp only [upd, show ¬ q = t + 8 + k by omega, if_false]; exact h2 q hq)
  refine tw_iconst C dX11_lasts_0 (v := nI 0) (by decide) ?_
  refine tw_istore (L' := [(4, .int (nI 0)), (0, .ref (tw_ad G 114)), (1, .int (nI t)), (2, .int (nI m)), (3, .int (nI w))]) C N dX11_lasts_1 (i := 4) (by decide) rfl ?_
  exact loop 8 0 f rfl (BK_nil _ _) (fun q _ => rfl)
