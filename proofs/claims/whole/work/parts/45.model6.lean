/-! the model lays bytes of its tape behind one another -/
theorem be_nb {xs : List Nat} (hb : ∀ x ∈ xs, x < 256) (a n : Nat) : be (nb xs a n) n = cutD xs a n := by
  unfold be cutD
  refine List.map_congr_left (fun i hi => ?_)
  have hi := List.mem_range.mp hi
  have h1 : nb xs a n = nb xs a (i + 1) * 256 ^ (n - 1 - i) + nb xs (a + (i + 1)) (n - 1 - i) := by
    rw [← nb_ad]
    congr 1
    omega
  have h2 := nb_lt hb (a + (i + 1)) (n - 1 - i)
  have h3 : (2 : Nat) ^ (8 * (n - 1 - i)) = 256 ^ (n - 1 - i) := by rw [Nat.pow_mul]
  rw [h3, h1, Nat.mul_comm, Nat.mul_add_div (Nat.pos_of_ne_zero (by intro h0; rw [h0] at h2; omega)), Nat.div_eq_of_lt h2, Nat.add_zero, nb]
  have h4 := gD_lt hb (a + i)
  omega
theorem be2 {a b : Nat} (ha : a < 256) (hb : b < 256) : be (a * 256 + b) 2 = [a, b] := by
  show [(a * 256 + b) / 2 ^ 8 % 256, (a * 256 + b) / 2 ^ 0 % 256] = _
  simp only [List.cons.injEq, and_true]
  refine ⟨?_, ?_⟩ <;> omega
theorem cutP_step {xs tp : List Nat} (hb : ∀ x ∈ tp, x < 256) (a j : Nat) : (xs ++ cutD tp a j) ++ [tp.getD (a + j) 0 % 256] = xs ++ cutD tp a (j + 1) := by
  rw [cutD_succ, Nat.mod_eq_of_lt (gD_lt hb _), List.append_assoc]
def lsS (how : Nat) : Nat := if how = 1 then 8 else if how = 2 then 14 else 16
theorem nb2 (xs : List Nat) (a : Nat) : nb xs a 2 = xs.getD a 0 * 256 + xs.getD (a + 1) 0 := by show (0 * 256 + xs.getD a 0) * 256 + xs.getD (a + 1) 0 = _; omega
theorem c_X11_groupOf {G : tw_G} (hM : tw_mG G) {S : tw_S} {tp : List Nat} (hT : LA (tw_A S 118) tp) (htb : ∀ x ∈ tp, x < 256) (htl : tp.length ≤ 640) (h40 : 40 ≤ tp.length) : tw_M G yX11_groupOf cX11_groupOf 1 (some .int) 1 24 [.ref (tw_ad G 114)] S ri_I (fun v S' => v = nI (mMany (nb tp 24 8) (nb tp 32 8) - 8) ∧ S = S') := by
  refine tw_M.of (L := [(0, .ref (tw_ad G 114))]) (by decide) (Nat.le_of_ble_eq_true rfl) rfl (fun X C N Q => ?_)
  have C : tw_C G X cX11_groupOf RX11 := C
  have f1 : nb tp 24 8 = nb tp 24 2 * 256 ^ 6 + nb tp 26 6 := nb_ad tp 24 2 6
  have f2 : nb tp 26 9 = nb tp 26 6 * 256 ^ 3 + nb tp 32 3 := nb_ad tp 26 6 3
  have f3 : nb tp 32 8 = nb tp 32 3 * 256 ^ 5 + nb tp 35 5 := nb_ad tp 32 3 5
  have f4 : nb tp 32 8 = nb tp 32 5 * 256 ^ 3 + nb tp 37 3 := nb_ad tp 32 5 3
  have f5 : nb tp 32 8 = nb tp 32 7 * 256 ^ 1 + nb tp 39 1 := nb_ad tp 32 7 1
  have f6 : nb tp 32 5 = nb tp 32 3 * 256 ^ 2 + nb tp 35 2 := nb_ad tp 32 3 2
  have f7 : nb tp 32 7 = nb tp 32 5 * 256 ^ 2 + nb tp 37 2 := nb_ad tp 32 5 2
  have f8 := nb_lt htb 26 6
  have f9 := nb_lt htb 35 5
  have f10 := nb_lt htb 37 3
  have f11 := nb_lt htb 39 1
  have f12 := nb2 tp 24
  have f13 := gD_lt htb 25
  have f14 : nb tp 24 2 = tp.getD 24 0 * 256 + tp.getD 25 0 := f12
  have f15 := nb_lt htb 32 3
  have f16 := nb_lt htb 35 2
  have f17 := nb_lt htb 37 2
  simp only [Nat.reducePow] at f1 f2 f3 f4 f5 f6 f7 f8 f9 f10 f11 f15 f16 f17
  refine tw_aload_n C dX11_groupOf_0 0 rfl ?_
  refine tw_bipush C dX11_groupOf_1 (v := nI 26) (by decide) ?_
  refine tw_bipush C dX11_groupOf_3 (v := nI 35) (by decide) ?_
  refine tw_callV (As := [.int (nI 26), .int (nI 35)]) (rest := []) C N (c_X11_isZero hM (S := S) (tp := tp) hT htb htl (a := 26) (e := 35) (by omega) (by omega)) mm_X11_isZero wd_412 rfl (hM 114 (by decide) (by decide)) sh_114 rfl (by decide) rfl (Nat.le_of_ble_eq_true rfl) dX11_groupOf_5 ?_
  rintro _ _ ⟨rfl, rfl⟩
  show TW G X S [(0, .ref (tw_ad G 114))] 8 [.int (bI (zB tp 26 9))]
  refine tb_if_ne C dX11_groupOf_8 (tgt := 13) (by decide) (fun q1 => ?_) (fun q1 => ?_)
  · rw [zB_nb] at q1
    have zq1 := of_decide_eq_true q1
    refine tw_aload_n C dX11_groupOf_13 0 rfl ?_
    refine tw_bipush C dX11_groupOf_14 (v := nI 35) (by decide) ?_
    refine tw_bipush C dX11_groupOf_16 (v := nI 37) (by decide) ?_
    refine tw_callV (As := [.int (nI 35), .int (nI 37)]) (rest := []) C N (c_X11_isZero hM (S := S) (tp := tp) hT htb htl (a := 35) (e := 37) (by omega) (by omega)) mm_X11_isZero wd_412 rfl (hM 114 (by decide) (by decide)) sh_114 rfl (by decide) rfl (Nat.le_of_ble_eq_true rfl) dX11_groupOf_18 ?_
    rintro _ _ ⟨rfl, rfl⟩
    show TW G X S [(0, .ref (tw_ad G 114))] 21 [.int (bI (zB tp 35 2))]
    refine tb_if_ne C dX11_groupOf_21 (tgt := 26) (by decide) (fun q2 => ?_) (fun q2 => ?_)
    · rw [zB_nb] at q2
      have zq2 := of_decide_eq_true q2
      refine tw_aload_n C dX11_groupOf_26 0 rfl ?_
      refine tw_bipush C dX11_groupOf_27 (v := nI 37) (by decide) ?_
      refine tw_bipush C dX11_groupOf_29 (v := nI 39) (by decide) ?_
      refine tw_callV (As := [.int (nI 37), .int (nI 39)]) (rest := []) C N (c_X11_isZero hM (S := S) (tp := tp) hT htb htl (a := 37) (e := 39) (by omega) (by omega)) mm_X11_isZero wd_412 rfl (hM 114 (by decide) (by decide)) sh_114 rfl (by decide) rfl (Nat.le_of_ble_eq_true rfl) dX11_groupOf_31 ?_
      rintro _ _ ⟨rfl, rfl⟩
      show TW G X S [(0, .ref (tw_ad G 114))] 34 [.int (bI (zB tp 37 2))]
      refine tb_if_eq C dX11_groupOf_34 (tgt := 52) (by decide) (fun q3 => ?_) (fun q3 => ?_)
      · rw [zB_nb] at q3
        have zq3 := of_decide_eq_false q3
        refine tw_iconst C dX11_groupOf_52 (v := nI 2) (by decide) ?_
        exact tw_ireturn C Q dX11_groupOf_53 rfl rfl rfl ⟨by rw [mMany, if_neg (by omega), if_neg (by omega), if_neg (by omega)], rfl⟩
      · rw [zB_nb] at q3
        have zq3 := of_decide_eq_true q3
        refine tw_aload_n C dX11_groupOf_37 0 rfl ?_
        refine tw_getR (q := 118) (k := 3) C dX11_groupOf_38 fc_X11 sh_114 (hM 114 (by decide) (by decide)) rfl (by decide) wd_114 ?_
        refine tw_bipush C dX11_groupOf_41 (v := nI 25) (by decide) ?_
        refine tw_iald (v := nI (tp.getD 25 0)) C dX11_groupOf_43 sn_118 sa_118 (hM 118 (by decide) (by decide)) (by omega) (by decide) (hT 25 (by omega)) ?_
        refine tw_iconst C dX11_groupOf_44 (v := nI 2) (by decide) ?_
        refine tn_icmp_ne C dX11_groupOf_45 (tgt := 52) (by decide) (by omega) (by omega) (fun c4 => ?_) (fun c4 => ?_)
        · skip
          refine tw_iconst C dX11_groupOf_52 (v := nI 2) (by decide) ?_
          exact tw_ireturn C Q dX11_groupOf_53 rfl rfl rfl ⟨by rw [mMany, if_neg (by omega), if_neg (by omega), if_neg (by omega)], rfl⟩
        · skip
          refine tw_iconst C dX11_groupOf_48 (v := nI 3) (by decide) ?_
          refine tw_goto C dX11_groupOf_49 (tgt := 53) (by decide) ?_
          exact tw_ireturn C Q dX11_groupOf_53 rfl rfl rfl ⟨by rw [mMany, if_neg (by omega), if_neg (by omega), if_pos (by omega)], rfl⟩
    · rw [zB_nb] at q2
      have zq2 := of_decide_eq_false q2
      refine tw_iconst C dX11_groupOf_24 (v := nI 1) (by decide) ?_
      exact tw_ireturn C Q dX11_groupOf_25 rfl rfl rfl ⟨by rw [mMany, if_neg (by omega), if_pos (by omega)], rfl⟩
  · rw [zB_nb] at q1
    have zq1 := of_decide_eq_false q1
    refine tw_iconst C dX11_groupOf_11 (v := nI 0) (by decide) ?_
    exact tw_ireturn C Q dX11_groupOf_12 rfl rfl rfl ⟨by rw [mMany, if_pos (by omega)], rfl⟩
theorem c_X11_addAll {G : tw_G} (hM : tw_mG G) {B : tw_S} {f : Nat → Int32} {xs : List Nat} (hf : LA f xs) {tp : List Nat} (hT : LA (tw_A B 118) tp) (htb : ∀ x ∈ tp, x < 256) (htl : tp.length ≤ 640) {a : Nat} (ha : a + 16 ≤ tp.length) (hxl : xs.length + 16 ≤ 800) : tw_M G yX11_addAll cX11_addAll 3 none 1 21 [.ref (tw_ad G 114), .int (nI a)] ((MU B 120 8 f xs)) ri_V (fun _ S' => ∃ g, S' = MU B 120 8 g (xs ++ cutD tp a 16) ∧ LA g (xs ++ cutD tp a 16)) := by
  refine tw_M.of (L := [(0, .ref (tw_ad G 114)), (1, .int (nI a))]) (by decide) (Nat.le_of_ble_eq_true rfl) rfl (fun X C N Q => ?_)
  have C : tw_C G X cX11_addAll RX11 := C
  have loop : ∀ (d : Nat) (j : Nat) (f : Nat → Int32) (_ : j + d = 16) (hf : LA f (xs ++ cutD tp a j)), TW G X (MU B 120 8 f (xs ++ cutD tp a j)) [(2, .int (nI j)), (0, .ref (tw_ad G 114)), (1, .int (nI a))] 2 [] := by
    intro d
    induction d with
    | zero =>
      intro j f hj hf
      have hcl := cutD_len tp a j
      refine tw_iload_n C dX11_addAll_2 0 rfl ?_
      refine tw_bipush C dX11_addAll_3 (v := nI 16) (by decide) ?_
      refine tn_icmp_ge C dX11_addAll_5 (tgt := 26) (by decide) (by omega) (by omega) (fun c1 => ?_) (fun c1 => ?_)
      · skip
        exact tw_return (v := ()) C Q dX11_addAll_26 rfl rfl ⟨f, by rw [show j = 16 by omega], by rw [show j = 16 by omega] at hf; exact hf⟩
      · exact absurd c1 (by omega)
    | succ d ih =>
      intro j f hj hf
      have hcl := cutD_len tp a j
      refine tw_iload_n C dX11_addAll_2 0 rfl ?_
      refine tw_bipush C dX11_addAll_3 (v := nI 16) (by decide) ?_
      refine tn_icmp_ge C dX11_addAll_5 (tgt := 26) (by decide) (by omega) (by omega) (fun c1 => ?_) (fun c1 => ?_)
      · exact absurd c1 (by omega)
      refine tw_aload_n C dX11_addAll_8 1 rfl ?_
      refine tw_aload_n C dX11_addAll_9 1 rfl ?_
      refine tw_getR (q := 118) (k := 3) C dX11_addAll_10 fc_X11 sh_114 (hM 114 (by decide) (by decide)) rfl (by decide) wd_114 ?_
      refine tw_iload_n C dX11_addAll_13 2 rfl ?_
      refine tw_iload_n C dX11_addAll_14 0 rfl ?_
      refine tw_iadd C dX11_addAll_15 (v := nI (a + j)) (nI_add _ _) ?_
      refine tw_iald (v := nI (tp.getD (a + j) 0)) C dX11_addAll_16 sn_118 sa_118 (hM 118 (by decide) (by decide)) (by omega) (by decide) (hT (a + j) (by omega)) ?_
      refine tw_callV (As := [.int (nI (tp.getD (a + j) 0))]) (rest := []) C N (c_X11_add hM (B := B) (f := f) (xs := xs ++ cutD tp a j) hf (by first | omega | (simp only [List.length_append, List.length_take, be_len, List.length_cons, List.length_nil]; omega)) (b := tp.getD (a + j) 0)) mm_X11_add wd_424 rfl (hM 114 (by decide) (by decide)) sh_114 rfl (by decide) rfl (Nat.le_of_ble_eq_true rfl) dX11_addAll_17 ?_
      rintro _ _ ⟨f2, rfl, hf2⟩
      show TW G X (MU B 120 8 f2 ((xs ++ cutD tp a j) ++ [(tp.getD (a + j) 0) % 256])) [(2, .int (nI j)), (0, .ref (tw_ad G 114)), (1, .int (nI a))] 20 []
      refine tw_iinc (k := 0) (v := nI (j + 1)) (L' := [(2, .int (nI (j + 1))), (0, .ref (tw_ad G 114)), (1, .int (nI a))]) C N dX11_addAll_20 rfl (tn_inc1 _) (by decide) rfl ?_
      refine tw_goto C dX11_addAll_23 (tgt := 2) (by decide) ?_
      rw [cutP_step htb] at hf2 ⊢
      refine TW.c (L' := [(2, .int (nI (j + 1))), (0, .ref (tw_ad G 114)), (1, .int (nI a))]) (by simp [Nat.add_assoc]) ?_
      exact ih (j + 1) f2 (by omega) hf2
  refine tw_iconst C dX11_addAll_0 (v := nI 0) (by decide) ?_
  refine tw_istore_n (L' := [(2, .int (nI 0)), (0, .ref (tw_ad G 114)), (1, .int (nI a))]) C N dX11_addAll_1 rfl (by decide) rfl ?_
  refine TW.sS (S' := MU B 120 8 f (xs ++ cutD tp a 0)) (by simp [cutD]) ?_
  exact loop 16 0 f rfl (by simpa [cutD] using hf)
theorem c_X11_addLasts {G : tw_G} (hM : tw_mG G) {B : tw_S} {f : Nat → Int32} {xs : List Nat} (hf : LA f xs) {tp : List Nat} (hT : LA (tw_A B 118) tp) (htb : ∀ x ∈ tp, x < 256) (htl : tp.length ≤ 640) {a m : Nat} (hm : m < 2 ^ 31) (ha : a + 16 ≤ tp.length) (hxl : xs.length + 16 ≤ 800) : tw_M G yX11_addLasts cX11_addLasts 4 none 1 21 [.ref (tw_ad G 114), .int (nI a), .int (nI m)] ((MU B 120 8 f xs)) ri_V (fun _ S' => ∃ g, S' = MU B 120 8 g (xs ++ cutD tp (a + lsS m) (16 - lsS m)) ∧ LA g (xs ++ cutD tp (a + lsS m) (16 - lsS m))) := by
  refine tw_M.of (L := [(0, .ref (tw_ad G 114)), (1, .int (nI a)), (2, .int (nI m))]) (by decide) (Nat.le_of_ble_eq_true rfl) rfl (fun X C N Q => ?_)
  have C : tw_C G X cX11_addLasts RX11 := C
  have loop : ∀ (d : Nat) (j : Nat) (f : Nat → Int32) (_ : lsS m + j + d = 16) (hf : LA f (xs ++ cutD tp (a + lsS m) j)), TW G X (MU B 120 8 f (xs ++ cutD tp (a + lsS m) j)) [(3, .int (nI (lsS m + j))), (0, .ref (tw_ad G 114)), (1, .int (nI a)), (2, .int (nI m))] 23 [] := by
    intro d
    induction d with
    | zero =>
      intro j f hj hf
      have hcl := cutD_len tp (a + lsS m) j
      refine tw_iload_n C dX11_addLasts_23 0 rfl ?_
      refine tw_bipush C dX11_addLasts_24 (v := nI 16) (by decide) ?_
      refine tn_icmp_ge C dX11_addLasts_26 (tgt := 47) (by decide) (by omega) (by omega) (fun c1 => ?_) (fun c1 => ?_)
      · skip
        exact tw_return (v := ()) C Q dX11_addLasts_47 rfl rfl ⟨f, by rw [show 16 - lsS m = j by omega], by rw [show 16 - lsS m = j by omega]; exact hf⟩
      · exact absurd c1 (by omega)
    | succ d ih =>
      intro j f hj hf
      have hcl := cutD_len tp (a + lsS m) j
      refine tw_iload_n C dX11_addLasts_23 0 rfl ?_
      refine tw_bipush C dX11_addLasts_24 (v := nI 16) (by decide) ?_
      refine tn_icmp_ge C dX11_addLasts_26 (tgt := 47) (by decide) (by omega) (by omega) (fun c1 => ?_) (fun c1 => ?_)
      · exact absurd c1 (by omega)
      refine tw_aload_n C dX11_addLasts_29 1 rfl ?_
      refine tw_aload_n C dX11_addLasts_30 1 rfl ?_
      refine tw_getR (q := 118) (k := 3) C dX11_addLasts_31 fc_X11 sh_114 (hM 114 (by decide) (by decide)) rfl (by decide) wd_114 ?_
      refine tw_iload_n C dX11_addLasts_34 2 rfl ?_
      refine tw_iload_n C dX11_addLasts_35 0 rfl ?_
      refine tw_iadd C dX11_addLasts_36 (v := nI (a + (lsS m + j))) (nI_add _ _) ?_
      refine tw_iald (v := nI (tp.getD (a + (lsS m + j)) 0)) C dX11_addLasts_37 sn_118 sa_118 (hM 118 (by decide) (by decide)) (by omega) (by decide) (hT (a + (lsS m + j)) (by omega)) ?_
      refine tw_callV (As := [.int (nI (tp.getD (a + (lsS m + j)) 0))]) (rest := []) C N (c_X11_add hM (B := B) (f := f) (xs := xs ++ cutD tp (a + lsS m) j) hf (by first | omega | (simp only [List.length_append, List.length_take, be_len, List.length_cons, List.length_nil]; omega)) (b := tp.getD (a + (lsS m + j)) 0)) mm_X11_add wd_424 rfl (hM 114 (by decide) (by decide)) sh_114 rfl (by decide) rfl (Nat.le_of_ble_eq_true rfl) dX11_addLasts_38 ?_
      rintro _ _ ⟨f2, rfl, hf2⟩
      show TW G X (MU B 120 8 f2 ((xs ++ cutD tp (a + lsS m) j) ++ [(tp.getD (a + (lsS m + j)) 0) % 256])) [(3, .int (nI (lsS m + j))), (0, .ref (tw_ad G 114)), (1, .int (nI a)), (2, .int (nI m))] 41 []
      refine tw_iinc (k := 0) (v := nI (lsS m + j + 1)) (L' := [(3, .int (nI (lsS m + j + 1))), (0, .ref (tw_ad G 114)), (1, .int (nI a)), (2, .int (nI m))]) C N dX11_addLasts_41 rfl (tn_inc1 _) (by decide) rfl ?_
      refine tw_goto C dX11_addLasts_44 (tgt := 23) (by decide) ?_
      rw [← Nat.add_assoc a (lsS m) j, cutP_step htb] at hf2 ⊢
      refine TW.c (L' := [(3, .int (nI (lsS m + (j + 1)))), (0, .ref (tw_ad G 114)), (1, .int (nI a)), (2, .int (nI m))]) (by simp [Nat.add_assoc]) ?_
      exact ih (j + 1) f2 (by omega) hf2
  refine tw_iload_n C dX11_addLasts_0 2 rfl ?_
  refine tw_iconst C dX11_addLasts_1 (v := nI 1) (by decide) ?_
  refine tn_icmp_ne C dX11_addLasts_2 (tgt := 10) (by decide) (by omega) (by omega) (fun c1 => ?_) (fun c1 => ?_)
  · skip
    refine tw_iload_n C dX11_addLasts_10 2 rfl ?_
    refine tw_iconst C dX11_addLasts_11 (v := nI 2) (by decide) ?_
    refine tn_icmp_ne C dX11_addLasts_12 (tgt := 20) (by decide) (by omega) (by omega) (fun c2 => ?_) (fun c2 => ?_)
    · skip
      refine tw_bipush C dX11_addLasts_20 (v := nI 16) (by decide) ?_
      refine tw_istore_n (L' := [(3, .int (nI 16)), (0, .ref (tw_ad G 114)), (1, .int (nI a)), (2, .int (nI m))]) C N dX11_addLasts_22 rfl (by decide) rfl ?_
      have hs0 : lsS m = 16 := by rw [lsS, if_neg (by omega), if_neg (by omega)]
      refine TW.sS (S' := MU B 120 8 f (xs ++ cutD tp (a + lsS m) 0)) (by simp [cutD]) ?_
      refine TW.c (L' := [(3, .int (nI (lsS m + 0))), (0, .ref (tw_ad G 114)), (1, .int (nI a)), (2, .int (nI m))]) (by rw [hs0]; simp) ?_
      exact loop (16 - lsS m) 0 f (by omega) (by simpa [cutD] using hf)
    · skip
      refine tw_bipush C dX11_addLasts_15 (v := nI 14) (by decide) ?_
      refine tw_goto C dX11_addLasts_17 (tgt := 22) (by decide) ?_
      refine tw_istore_n (L' := [(3, .int (nI 14)), (0, .ref (tw_ad G 114)), (1, .int (nI a)), (2, .int (nI m))]) C N dX11_addLasts_22 rfl (by decide) rfl ?_
      have hs0 : lsS m = 14 := by rw [lsS, if_neg (by omega), if_pos (by omega)]
      refine TW.sS (S' := MU B 120 8 f (xs ++ cutD tp (a + lsS m) 0)) (by simp [cutD]) ?_
      refine TW.c (L' := [(3, .int (nI (lsS m + 0))), (0, .ref (tw_ad G 114)), (1, .int (nI a)), (2, .int (nI m))]) (by rw [hs0]; simp) ?_
      exact loop (16 - lsS m) 0 f (by omega) (by simpa [cutD] using hf)
  · skip
    refine tw_bipush C dX11_addLasts_5 (v := nI 8) (by decide) ?_
    refine tw_goto C dX11_addLasts_7 (tgt := 22) (by decide) ?_
    refine tw_istore_n (L' := [(3, .int (nI 8)), (0, .ref (tw_ad G 114)), (1, .int (nI a)), (2, .int (nI m))]) C N dX11_addLasts_22 rfl (by decide) rfl ?_
    have hs0 : lsS m = 8 := by rw [lsS, if_pos (by omega)]
    refine TW.sS (S' := MU B 120 8 f (xs ++ cutD tp (a + lsS m) 0)) (by simp [cutD]) ?_
    refine TW.c (L' := [(3, .int (nI (lsS m + 0))), (0, .ref (tw_ad G 114)), (1, .int (nI a)), (2, .int (nI m))]) (by rw [hs0]; simp) ?_
    exact loop (16 - lsS m) 0 f (by omega) (by simpa [cutD] using hf)
theorem c_X11_addPorts {G : tw_G} (hM : tw_mG G) {B : tw_S} {f : Nat → Int32} {xs : List Nat} (hf : LA f xs) {tp : List Nat} (hT : LA (tw_A B 118) tp) (htb : ∀ x ∈ tp, x < 256) (htl : tp.length ≤ 640) (h48 : 48 ≤ tp.length) (hxl : xs.length + 8 ≤ 800) : tw_M G yX11_addPorts cX11_addPorts 3 none 1 21 [.ref (tw_ad G 114)] ((MU B 120 8 f xs)) ri_V (fun _ S' => ∃ g, S' = MU B 120 8 g (xs ++ sqPo (nb tp 40 2) (nb tp 42 2) (nb tp 46 2)) ∧ LA g (xs ++ sqPo (nb tp 40 2) (nb tp 42 2) (nb tp 46 2))) := by
  refine tw_M.of (L := [(0, .ref (tw_ad G 114))]) (by decide) (Nat.le_of_ble_eq_true rfl) rfl (fun X C N Q => ?_)
  have C : tw_C G X cX11_addPorts RX11 := C
  have n1 := nb2 tp 40
  have n2 := nb2 tp 42
  have n3 := nb2 tp 46
  have g40 := gD_lt htb 40
  have g41 := gD_lt htb 41
  have g42 := gD_lt htb 42
  have g43 := gD_lt htb 43
  have g46 := gD_lt htb 46
  have g47 := gD_lt htb 47
  have m1 : nb tp 40 2 = tp.getD 40 0 * 256 + tp.getD 41 0 := n1
  have m2 : nb tp 42 2 = tp.getD 42 0 * 256 + tp.getD 43 0 := n2
  have m3 : nb tp 46 2 = tp.getD 46 0 * 256 + tp.getD 47 0 := n3
  refine tw_aload_n C dX11_addPorts_0 0 rfl ?_
  refine tw_getR (q := 118) (k := 3) C dX11_addPorts_1 fc_X11 sh_114 (hM 114 (by decide) (by decide)) rfl (by decide) wd_114 ?_
  refine tw_bipush C dX11_addPorts_4 (v := nI 40) (by decide) ?_
  refine tw_iald (v := nI (tp.getD 40 0)) C dX11_addPorts_6 sn_118 sa_118 (hM 118 (by decide) (by decide)) (by omega) (by decide) (hT 40 (by omega)) ?_
  refine tw_sipush C dX11_addPorts_7 (v := nI 240) (by decide) ?_
  refine tn_icmp_ne C dX11_addPorts_10 (tgt := 17) (by decide) (by omega) (by omega) (fun c1 => ?_) (fun c1 => ?_)
  · skip
    refine tw_iconst C dX11_addPorts_17 (v := nI 0) (by decide) ?_
    refine tw_istore_n (L' := [(1, .int (nI 0)), (0, .ref (tw_ad G 114))]) C N dX11_addPorts_18 rfl (by decide) rfl ?_
    refine tw_aload_n C dX11_addPorts_19 1 rfl ?_
    refine tw_getR (q := 118) (k := 3) C dX11_addPorts_20 fc_X11 sh_114 (hM 114 (by decide) (by decide)) rfl (by decide) wd_114 ?_
    refine tw_bipush C dX11_addPorts_23 (v := nI 42) (by decide) ?_
    refine tw_iald (v := nI (tp.getD 42 0)) C dX11_addPorts_25 sn_118 sa_118 (hM 118 (by decide) (by decide)) (by omega) (by decide) (hT 42 (by omega)) ?_
    refine tw_sipush C dX11_addPorts_26 (v := nI 240) (by decide) ?_
    refine tn_icmp_ne C dX11_addPorts_29 (tgt := 36) (by decide) (by omega) (by omega) (fun c2 => ?_) (fun c2 => ?_)
    · skip
      refine tw_iconst C dX11_addPorts_36 (v := nI 0) (by decide) ?_
      refine tw_istore_n (L' := [(2, .int (nI 0)), (1, .int (nI 0)), (0, .ref (tw_ad G 114))]) C N dX11_addPorts_37 rfl (by decide) rfl ?_
      refine tw_iload_n C dX11_addPorts_38 1 rfl ?_
      refine tn_if_eq C dX11_addPorts_39 (tgt := 111) (by decide) (by omega) (fun c3 => ?_) (fun c3 => ?_)
      · skip
        refine tw_iload_n C dX11_addPorts_111 0 rfl ?_
        refine tn_if_eq C dX11_addPorts_112 (tgt := 158) (by decide) (by omega) (fun c4 => ?_) (fun c4 => ?_)
        · skip
          refine tw_iload_n C dX11_addPorts_158 1 rfl ?_
          refine tn_if_eq C dX11_addPorts_159 (tgt := 205) (by decide) (by omega) (fun c5 => ?_) (fun c5 => ?_)
          · skip
            refine tw_aload_n C dX11_addPorts_205 2 rfl ?_
            refine tw_sipush C dX11_addPorts_206 (v := nI 240) (by decide) ?_
            refine tw_callV (As := [.int (nI 240)]) (rest := []) C N (c_X11_add hM (B := B) (f := f) (xs := xs) hf (by first | omega | (simp only [List.length_append, List.length_take, be_len, List.length_cons, List.length_nil]; omega)) (b := 240)) mm_X11_add wd_424 rfl (hM 114 (by decide) (by decide)) sh_114 rfl (by decide) rfl (Nat.le_of_ble_eq_true rfl) dX11_addPorts_209 ?_
            rintro _ _ ⟨f6, rfl, hf6⟩
            show TW G X (MU B 120 8 f6 (xs ++ [240 % 256])) [(2, .int (nI 0)), (1, .int (nI 0)), (0, .ref (tw_ad G 114))] 212 []
            refine tw_aload_n C dX11_addPorts_212 2 rfl ?_
            refine tw_aload_n C dX11_addPorts_213 2 rfl ?_
            refine tw_getR (q := 118) (k := 3) C dX11_addPorts_214 fc_X11 sh_114 (hM 114 (by decide) (by decide)) rfl (by decide) wd_114 ?_
            refine tw_bipush C dX11_addPorts_217 (v := nI 40) (by decide) ?_
            refine tw_iald (v := nI (tp.getD 40 0)) C dX11_addPorts_219 sn_118 sa_118 (hM 118 (by decide) (by decide)) (by omega) (by decide) (hT 40 (by omega)) ?_
            refine tw_callV (As := [.int (nI (tp.getD 40 0))]) (rest := []) C N (c_X11_add hM (B := B) (f := f6) (xs := xs ++ [240 % 256]) hf6 (by first | omega | (simp only [List.length_append, List.length_take, be_len, List.length_cons, List.length_nil]; omega)) (b := tp.getD 40 0)) mm_X11_add wd_424 rfl (hM 114 (by decide) (by decide)) sh_114 rfl (by decide) rfl (Nat.le_of_ble_eq_true rfl) dX11_addPorts_220 ?_
            rintro _ _ ⟨f8, rfl, hf8⟩
            show TW G X (MU B 120 8 f8 ((xs ++ [240 % 256]) ++ [(tp.getD 40 0) % 256])) [(2, .int (nI 0)), (1, .int (nI 0)), (0, .ref (tw_ad G 114))] 223 []
            refine tw_aload_n C dX11_addPorts_223 2 rfl ?_
            refine tw_aload_n C dX11_addPorts_224 2 rfl ?_
            refine tw_getR (q := 118) (k := 3) C dX11_addPorts_225 fc_X11 sh_114 (hM 114 (by decide) (by decide)) rfl (by decide) wd_114 ?_
            refine tw_bipush C dX11_addPorts_228 (v := nI 41) (by decide) ?_
            refine tw_iald (v := nI (tp.getD 41 0)) C dX11_addPorts_230 sn_118 sa_118 (hM 118 (by decide) (by decide)) (by omega) (by decide) (hT 41 (by omega)) ?_
            refine tw_callV (As := [.int (nI (tp.getD 41 0))]) (rest := []) C N (c_X11_add hM (B := B) (f := f8) (xs := (xs ++ [240 % 256]) ++ [(tp.getD 40 0) % 256]) hf8 (by first | omega | (simp only [List.length_append, List.length_take, be_len, List.length_cons, List.length_nil]; omega)) (b := tp.getD 41 0)) mm_X11_add wd_424 rfl (hM 114 (by decide) (by decide)) sh_114 rfl (by decide) rfl (Nat.le_of_ble_eq_true rfl) dX11_addPorts_231 ?_
            rintro _ _ ⟨f10, rfl, hf10⟩
            show TW G X (MU B 120 8 f10 (((xs ++ [240 % 256]) ++ [(tp.getD 40 0) % 256]) ++ [(tp.getD 41 0) % 256])) [(2, .int (nI 0)), (1, .int (nI 0)), (0, .ref (tw_ad G 114))] 234 []
            refine tw_aload_n C dX11_addPorts_234 2 rfl ?_
            refine tw_aload_n C dX11_addPorts_235 2 rfl ?_
            refine tw_getR (q := 118) (k := 3) C dX11_addPorts_236 fc_X11 sh_114 (hM 114 (by decide) (by decide)) rfl (by decide) wd_114 ?_
            refine tw_bipush C dX11_addPorts_239 (v := nI 42) (by decide) ?_
            refine tw_iald (v := nI (tp.getD 42 0)) C dX11_addPorts_241 sn_118 sa_118 (hM 118 (by decide) (by decide)) (by omega) (by decide) (hT 42 (by omega)) ?_
            refine tw_callV (As := [.int (nI (tp.getD 42 0))]) (rest := []) C N (c_X11_add hM (B := B) (f := f10) (xs := ((xs ++ [240 % 256]) ++ [(tp.getD 40 0) % 256]) ++ [(tp.getD 41 0) % 256]) hf10 (by first | omega | (simp only [List.length_append, List.length_take, be_len, List.length_cons, List.length_nil]; omega)) (b := tp.getD 42 0)) mm_X11_add wd_424 rfl (hM 114 (by decide) (by decide)) sh_114 rfl (by decide) rfl (Nat.le_of_ble_eq_true rfl) dX11_addPorts_242 ?_
            rintro _ _ ⟨f12, rfl, hf12⟩
            show TW G X (MU B 120 8 f12 ((((xs ++ [240 % 256]) ++ [(tp.getD 40 0) % 256]) ++ [(tp.getD 41 0) % 256]) ++ [(tp.getD 42 0) % 256])) [(2, .int (nI 0)), (1, .int (nI 0)), (0, .ref (tw_ad G 114))] 245 []
            refine tw_aload_n C dX11_addPorts_245 2 rfl ?_
            refine tw_aload_n C dX11_addPorts_246 2 rfl ?_
            refine tw_getR (q := 118) (k := 3) C dX11_addPorts_247 fc_X11 sh_114 (hM 114 (by decide) (by decide)) rfl (by decide) wd_114 ?_
            refine tw_bipush C dX11_addPorts_250 (v := nI 43) (by decide) ?_
            refine tw_iald (v := nI (tp.getD 43 0)) C dX11_addPorts_252 sn_118 sa_118 (hM 118 (by decide) (by decide)) (by omega) (by decide) (hT 43 (by omega)) ?_
            refine tw_callV (As := [.int (nI (tp.getD 43 0))]) (rest := []) C N (c_X11_add hM (B := B) (f := f12) (xs := (((xs ++ [240 % 256]) ++ [(tp.getD 40 0) % 256]) ++ [(tp.getD 41 0) % 256]) ++ [(tp.getD 42 0) % 256]) hf12 (by first | omega | (simp only [List.length_append, List.length_take, be_len, List.length_cons, List.length_nil]; omega)) (b := tp.getD 43 0)) mm_X11_add wd_424 rfl (hM 114 (by decide) (by decide)) sh_114 rfl (by decide) rfl (Nat.le_of_ble_eq_true rfl) dX11_addPorts_253 ?_
            rintro _ _ ⟨f14, rfl, hf14⟩
            show TW G X (MU B 120 8 f14 (((((xs ++ [240 % 256]) ++ [(tp.getD 40 0) % 256]) ++ [(tp.getD 41 0) % 256]) ++ [(tp.getD 42 0) % 256]) ++ [(tp.getD 43 0) % 256])) [(2, .int (nI 0)), (1, .int (nI 0)), (0, .ref (tw_ad G 114))] 256 []
            refine tw_aload_n C dX11_addPorts_256 2 rfl ?_
            refine tw_aload_n C dX11_addPorts_257 2 rfl ?_
            refine tw_getR (q := 118) (k := 3) C dX11_addPorts_258 fc_X11 sh_114 (hM 114 (by decide) (by decide)) rfl (by decide) wd_114 ?_
            refine tw_bipush C dX11_addPorts_261 (v := nI 46) (by decide) ?_
            refine tw_iald (v := nI (tp.getD 46 0)) C dX11_addPorts_263 sn_118 sa_118 (hM 118 (by decide) (by decide)) (by omega) (by decide) (hT 46 (by omega)) ?_
            refine tw_callV (As := [.int (nI (tp.getD 46 0))]) (rest := []) C N (c_X11_add hM (B := B) (f := f14) (xs := ((((xs ++ [240 % 256]) ++ [(tp.getD 40 0) % 256]) ++ [(tp.getD 41 0) % 256]) ++ [(tp.getD 42 0) % 256]) ++ [(tp.getD 43 0) % 256]) hf14 (by first | omega | (simp only [List.length_append, List.length_take, be_len, List.length_cons, List.length_nil]; omega)) (b := tp.getD 46 0)) mm_X11_add wd_424 rfl (hM 114 (by decide) (by decide)) sh_114 rfl (by decide) rfl (Nat.le_of_ble_eq_true rfl) dX11_addPorts_264 ?_
            rintro _ _ ⟨f16, rfl, hf16⟩
            show TW G X (MU B 120 8 f16 ((((((xs ++ [240 % 256]) ++ [(tp.getD 40 0) % 256]) ++ [(tp.getD 41 0) % 256]) ++ [(tp.getD 42 0) % 256]) ++ [(tp.getD 43 0) % 256]) ++ [(tp.getD 46 0) % 256])) [(2, .int (nI 0)), (1, .int (nI 0)), (0, .ref (tw_ad G 114))] 267 []
            refine tw_aload_n C dX11_addPorts_267 2 rfl ?_
            refine tw_aload_n C dX11_addPorts_268 2 rfl ?_
            refine tw_getR (q := 118) (k := 3) C dX11_addPorts_269 fc_X11 sh_114 (hM 114 (by decide) (by decide)) rfl (by decide) wd_114 ?_
            refine tw_bipush C dX11_addPorts_272 (v := nI 47) (by decide) ?_
            refine tw_iald (v := nI (tp.getD 47 0)) C dX11_addPorts_274 sn_118 sa_118 (hM 118 (by decide) (by decide)) (by omega) (by decide) (hT 47 (by omega)) ?_
            refine tw_callV (As := [.int (nI (tp.getD 47 0))]) (rest := []) C N (c_X11_add hM (B := B) (f := f16) (xs := (((((xs ++ [240 % 256]) ++ [(tp.getD 40 0) % 256]) ++ [(tp.getD 41 0) % 256]) ++ [(tp.getD 42 0) % 256]) ++ [(tp.getD 43 0) % 256]) ++ [(tp.getD 46 0) % 256]) hf16 (by first | omega | (simp only [List.length_append, List.length_take, be_len, List.length_cons, List.length_nil]; omega)) (b := tp.getD 47 0)) mm_X11_add wd_424 rfl (hM 114 (by decide) (by decide)) sh_114 rfl (by decide) rfl (Nat.le_of_ble_eq_true rfl) dX11_addPorts_275 ?_
            rintro _ _ ⟨f18, rfl, hf18⟩
            show TW G X (MU B 120 8 f18 (((((((xs ++ [240 % 256]) ++ [(tp.getD 40 0) % 256]) ++ [(tp.getD 41 0) % 256]) ++ [(tp.getD 42 0) % 256]) ++ [(tp.getD 43 0) % 256]) ++ [(tp.getD 46 0) % 256]) ++ [(tp.getD 47 0) % 256])) [(2, .int (nI 0)), (1, .int (nI 0)), (0, .ref (tw_ad G 114))] 278 []
            have e1 : be (nb tp 40 2) 2 = [tp.getD 40 0, tp.getD 41 0] := by rw [m1]; exact be2 g40 g41
            have e2 : be (nb tp 42 2) 2 = [tp.getD 42 0, tp.getD 43 0] := by rw [m2]; exact be2 g42 g43
            have e3 : be (nb tp 46 2) 2 = [tp.getD 46 0, tp.getD 47 0] := by rw [m3]; exact be2 g46 g47
            have he : ((((((xs ++ [240 % 256]) ++ [(tp.getD 40 0) % 256]) ++ [(tp.getD 41 0) % 256]) ++ [(tp.getD 42 0) % 256]) ++ [(tp.getD 43 0) % 256]) ++ [(tp.getD 46 0) % 256]) ++ [(tp.getD 47 0) % 256] = xs ++ sqPo (nb tp 40 2) (nb tp 42 2) (nb tp 46 2) := by
              unfold sqPo
              rw [if_neg (by omega), if_neg (by omega), if_neg (by omega)]
              rw [e1, e2, e3]; simp only [Nat.mod_eq_of_lt g40, Nat.mod_eq_of_lt g41, Nat.mod_eq_of_lt g42, Nat.mod_eq_of_lt g43, Nat.mod_eq_of_lt g46, Nat.mod_eq_of_lt g47, List.append_assoc]; rfl
            have hfl := hf18
            rw [he] at hfl ⊢
            exact tw_return (v := ()) C Q dX11_addPorts_278 rfl rfl ⟨f18, rfl, hfl⟩
          · exact absurd c5 (by decide)
        · exact absurd c4 (by decide)
      · exact absurd c3 (by decide)
    · skip
      refine tw_iconst C dX11_addPorts_32 (v := nI 1) (by decide) ?_
      refine tw_goto C dX11_addPorts_33 (tgt := 37) (by decide) ?_
      refine tw_istore_n (L' := [(2, .int (nI 1)), (1, .int (nI 0)), (0, .ref (tw_ad G 114))]) C N dX11_addPorts_37 rfl (by decide) rfl ?_
      refine tw_iload_n C dX11_addPorts_38 1 rfl ?_
      refine tn_if_eq C dX11_addPorts_39 (tgt := 111) (by decide) (by omega) (fun c20 => ?_) (fun c20 => ?_)
      · skip
        refine tw_iload_n C dX11_addPorts_111 0 rfl ?_
        refine tn_if_eq C dX11_addPorts_112 (tgt := 158) (by decide) (by omega) (fun c21 => ?_) (fun c21 => ?_)
        · exact absurd c21 (by decide)
        refine tw_aload_n C dX11_addPorts_115 2 rfl ?_
        refine tw_sipush C dX11_addPorts_116 (v := nI 241) (by decide) ?_
        refine tw_callV (As := [.int (nI 241)]) (rest := []) C N (c_X11_add hM (B := B) (f := f) (xs := xs) hf (by first | omega | (simp only [List.length_append, List.length_take, be_len, List.length_cons, List.length_nil]; omega)) (b := 241)) mm_X11_add wd_424 rfl (hM 114 (by decide) (by decide)) sh_114 rfl (by decide) rfl (Nat.le_of_ble_eq_true rfl) dX11_addPorts_119 ?_
        rintro _ _ ⟨f22, rfl, hf22⟩
        show TW G X (MU B 120 8 f22 (xs ++ [241 % 256])) [(2, .int (nI 1)), (1, .int (nI 0)), (0, .ref (tw_ad G 114))] 122 []
        refine tw_aload_n C dX11_addPorts_122 2 rfl ?_
        refine tw_aload_n C dX11_addPorts_123 2 rfl ?_
        refine tw_getR (q := 118) (k := 3) C dX11_addPorts_124 fc_X11 sh_114 (hM 114 (by decide) (by decide)) rfl (by decide) wd_114 ?_
        refine tw_bipush C dX11_addPorts_127 (v := nI 40) (by decide) ?_
        refine tw_iald (v := nI (tp.getD 40 0)) C dX11_addPorts_129 sn_118 sa_118 (hM 118 (by decide) (by decide)) (by omega) (by decide) (hT 40 (by omega)) ?_
        refine tw_callV (As := [.int (nI (tp.getD 40 0))]) (rest := []) C N (c_X11_add hM (B := B) (f := f22) (xs := xs ++ [241 % 256]) hf22 (by first | omega | (simp only [List.length_append, List.length_take, be_len, List.length_cons, List.length_nil]; omega)) (b := tp.getD 40 0)) mm_X11_add wd_424 rfl (hM 114 (by decide) (by decide)) sh_114 rfl (by decide) rfl (Nat.le_of_ble_eq_true rfl) dX11_addPorts_130 ?_
        rintro _ _ ⟨f24, rfl, hf24⟩
        show TW G X (MU B 120 8 f24 ((xs ++ [241 % 256]) ++ [(tp.getD 40 0) % 256])) [(2, .int (nI 1)), (1, .int (nI 0)), (0, .ref (tw_ad G 114))] 133 []
        refine tw_aload_n C dX11_addPorts_133 2 rfl ?_
        refine tw_aload_n C dX11_addPorts_134 2 rfl ?_
        refine tw_getR (q := 118) (k := 3) C dX11_addPorts_135 fc_X11 sh_114 (hM 114 (by decide) (by decide)) rfl (by decide) wd_114 ?_
        refine tw_bipush C dX11_addPorts_138 (v := nI 41) (by decide) ?_
        refine tw_iald (v := nI (tp.getD 41 0)) C dX11_addPorts_140 sn_118 sa_118 (hM 118 (by decide) (by decide)) (by omega) (by decide) (hT 41 (by omega)) ?_
        refine tw_callV (As := [.int (nI (tp.getD 41 0))]) (rest := []) C N (c_X11_add hM (B := B) (f := f24) (xs := (xs ++ [241 % 256]) ++ [(tp.getD 40 0) % 256]) hf24 (by first | omega | (simp only [List.length_append, List.length_take, be_len, List.length_cons, List.length_nil]; omega)) (b := tp.getD 41 0)) mm_X11_add wd_424 rfl (hM 114 (by decide) (by decide)) sh_114 rfl (by decide) rfl (Nat.le_of_ble_eq_true rfl) dX11_addPorts_141 ?_
        rintro _ _ ⟨f26, rfl, hf26⟩
        show TW G X (MU B 120 8 f26 (((xs ++ [241 % 256]) ++ [(tp.getD 40 0) % 256]) ++ [(tp.getD 41 0) % 256])) [(2, .int (nI 1)), (1, .int (nI 0)), (0, .ref (tw_ad G 114))] 144 []
        refine tw_aload_n C dX11_addPorts_144 2 rfl ?_
        refine tw_aload_n C dX11_addPorts_145 2 rfl ?_
        refine tw_getR (q := 118) (k := 3) C dX11_addPorts_146 fc_X11 sh_114 (hM 114 (by decide) (by decide)) rfl (by decide) wd_114 ?_
        refine tw_bipush C dX11_addPorts_149 (v := nI 43) (by decide) ?_
        refine tw_iald (v := nI (tp.getD 43 0)) C dX11_addPorts_151 sn_118 sa_118 (hM 118 (by decide) (by decide)) (by omega) (by decide) (hT 43 (by omega)) ?_
        refine tw_callV (As := [.int (nI (tp.getD 43 0))]) (rest := []) C N (c_X11_add hM (B := B) (f := f26) (xs := ((xs ++ [241 % 256]) ++ [(tp.getD 40 0) % 256]) ++ [(tp.getD 41 0) % 256]) hf26 (by first | omega | (simp only [List.length_append, List.length_take, be_len, List.length_cons, List.length_nil]; omega)) (b := tp.getD 43 0)) mm_X11_add wd_424 rfl (hM 114 (by decide) (by decide)) sh_114 rfl (by decide) rfl (Nat.le_of_ble_eq_true rfl) dX11_addPorts_152 ?_
        rintro _ _ ⟨f28, rfl, hf28⟩
        show TW G X (MU B 120 8 f28 ((((xs ++ [241 % 256]) ++ [(tp.getD 40 0) % 256]) ++ [(tp.getD 41 0) % 256]) ++ [(tp.getD 43 0) % 256])) [(2, .int (nI 1)), (1, .int (nI 0)), (0, .ref (tw_ad G 114))] 155 []
        refine tw_goto C dX11_addPorts_155 (tgt := 256) (by decide) ?_
        refine tw_aload_n C dX11_addPorts_256 2 rfl ?_
        refine tw_aload_n C dX11_addPorts_257 2 rfl ?_
        refine tw_getR (q := 118) (k := 3) C dX11_addPorts_258 fc_X11 sh_114 (hM 114 (by decide) (by decide)) rfl (by decide) wd_114 ?_
        refine tw_bipush C dX11_addPorts_261 (v := nI 46) (by decide) ?_
        refine tw_iald (v := nI (tp.getD 46 0)) C dX11_addPorts_263 sn_118 sa_118 (hM 118 (by decide) (by decide)) (by omega) (by decide) (hT 46 (by omega)) ?_
        refine tw_callV (As := [.int (nI (tp.getD 46 0))]) (rest := []) C N (c_X11_add hM (B := B) (f := f28) (xs := (((xs ++ [241 % 256]) ++ [(tp.getD 40 0) % 256]) ++ [(tp.getD 41 0) % 256]) ++ [(tp.getD 43 0) % 256]) hf28 (by first | omega | (simp only [List.length_append, List.length_take, be_len, List.length_cons, List.length_nil]; omega)) (b := tp.getD 46 0)) mm_X11_add wd_424 rfl (hM 114 (by decide) (by decide)) sh_114 rfl (by decide) rfl (Nat.le_of_ble_eq_true rfl) dX11_addPorts_264 ?_
        rintro _ _ ⟨f30, rfl, hf30⟩
        show TW G X (MU B 120 8 f30 (((((xs ++ [241 % 256]) ++ [(tp.getD 40 0) % 256]) ++ [(tp.getD 41 0) % 256]) ++ [(tp.getD 43 0) % 256]) ++ [(tp.getD 46 0) % 256])) [(2, .int (nI 1)), (1, .int (nI 0)), (0, .ref (tw_ad G 114))] 267 []
        refine tw_aload_n C dX11_addPorts_267 2 rfl ?_
        refine tw_aload_n C dX11_addPorts_268 2 rfl ?_
        refine tw_getR (q := 118) (k := 3) C dX11_addPorts_269 fc_X11 sh_114 (hM 114 (by decide) (by decide)) rfl (by decide) wd_114 ?_
        refine tw_bipush C dX11_addPorts_272 (v := nI 47) (by decide) ?_
        refine tw_iald (v := nI (tp.getD 47 0)) C dX11_addPorts_274 sn_118 sa_118 (hM 118 (by decide) (by decide)) (by omega) (by decide) (hT 47 (by omega)) ?_
        refine tw_callV (As := [.int (nI (tp.getD 47 0))]) (rest := []) C N (c_X11_add hM (B := B) (f := f30) (xs := ((((xs ++ [241 % 256]) ++ [(tp.getD 40 0) % 256]) ++ [(tp.getD 41 0) % 256]) ++ [(tp.getD 43 0) % 256]) ++ [(tp.getD 46 0) % 256]) hf30 (by first | omega | (simp only [List.length_append, List.length_take, be_len, List.length_cons, List.length_nil]; omega)) (b := tp.getD 47 0)) mm_X11_add wd_424 rfl (hM 114 (by decide) (by decide)) sh_114 rfl (by decide) rfl (Nat.le_of_ble_eq_true rfl) dX11_addPorts_275 ?_
        rintro _ _ ⟨f32, rfl, hf32⟩
        show TW G X (MU B 120 8 f32 ((((((xs ++ [241 % 256]) ++ [(tp.getD 40 0) % 256]) ++ [(tp.getD 41 0) % 256]) ++ [(tp.getD 43 0) % 256]) ++ [(tp.getD 46 0) % 256]) ++ [(tp.getD 47 0) % 256])) [(2, .int (nI 1)), (1, .int (nI 0)), (0, .ref (tw_ad G 114))] 278 []
        have e1 : be (nb tp 40 2) 2 = [tp.getD 40 0, tp.getD 41 0] := by rw [m1]; exact be2 g40 g41
        have e2 : be (nb tp 42 2) 2 = [tp.getD 42 0, tp.getD 43 0] := by rw [m2]; exact be2 g42 g43
        have e3 : be (nb tp 46 2) 2 = [tp.getD 46 0, tp.getD 47 0] := by rw [m3]; exact be2 g46 g47
        have e6 : nb tp 42 2 % 256 = tp.getD 43 0 := by omega
        have he : (((((xs ++ [241 % 256]) ++ [(tp.getD 40 0) % 256]) ++ [(tp.getD 41 0) % 256]) ++ [(tp.getD 43 0) % 256]) ++ [(tp.getD 46 0) % 256]) ++ [(tp.getD 47 0) % 256] = xs ++ sqPo (nb tp 40 2) (nb tp 42 2) (nb tp 46 2) := by
          unfold sqPo
          rw [if_neg (by omega), if_pos (by omega)]
          rw [e6, e1, e3]; simp only [Nat.mod_eq_of_lt g40, Nat.mod_eq_of_lt g41, Nat.mod_eq_of_lt g43, Nat.mod_eq_of_lt g46, Nat.mod_eq_of_lt g47, List.append_assoc]; rfl
        have hfl := hf32
        rw [he] at hfl ⊢
        exact tw_return (v := ()) C Q dX11_addPorts_278 rfl rfl ⟨f32, rfl, hfl⟩
      · exact absurd c20 (by decide)
  · skip
    refine tw_iconst C dX11_addPorts_13 (v := nI 1) (by decide) ?_
    refine tw_goto C dX11_addPorts_14 (tgt := 18) (by decide) ?_
    refine tw_istore_n (L' := [(1, .int (nI 1)), (0, .ref (tw_ad G 114))]) C N dX11_addPorts_18 rfl (by decide) rfl ?_
    refine tw_aload_n C dX11_addPorts_19 1 rfl ?_
    refine tw_getR (q := 118) (k := 3) C dX11_addPorts_20 fc_X11 sh_114 (hM 114 (by decide) (by decide)) rfl (by decide) wd_114 ?_
    refine tw_bipush C dX11_addPorts_23 (v := nI 42) (by decide) ?_
    refine tw_iald (v := nI (tp.getD 42 0)) C dX11_addPorts_25 sn_118 sa_118 (hM 118 (by decide) (by decide)) (by omega) (by decide) (hT 42 (by omega)) ?_
    refine tw_sipush C dX11_addPorts_26 (v := nI 240) (by decide) ?_
    refine tn_icmp_ne C dX11_addPorts_29 (tgt := 36) (by decide) (by omega) (by omega) (fun c34 => ?_) (fun c34 => ?_)
    · skip
      refine tw_iconst C dX11_addPorts_36 (v := nI 0) (by decide) ?_
      refine tw_istore_n (L' := [(2, .int (nI 0)), (1, .int (nI 1)), (0, .ref (tw_ad G 114))]) C N dX11_addPorts_37 rfl (by decide) rfl ?_
      refine tw_iload_n C dX11_addPorts_38 1 rfl ?_
      refine tn_if_eq C dX11_addPorts_39 (tgt := 111) (by decide) (by omega) (fun c35 => ?_) (fun c35 => ?_)
      · exact absurd c35 (by decide)
      refine tw_iload_n C dX11_addPorts_42 0 rfl ?_
      refine tn_if_eq C dX11_addPorts_43 (tgt := 111) (by decide) (by omega) (fun c36 => ?_) (fun c36 => ?_)
      · skip
        refine tw_iload_n C dX11_addPorts_111 0 rfl ?_
        refine tn_if_eq C dX11_addPorts_112 (tgt := 158) (by decide) (by omega) (fun c37 => ?_) (fun c37 => ?_)
        · skip
          refine tw_iload_n C dX11_addPorts_158 1 rfl ?_
          refine tn_if_eq C dX11_addPorts_159 (tgt := 205) (by decide) (by omega) (fun c38 => ?_) (fun c38 => ?_)
          · exact absurd c38 (by decide)
          refine tw_aload_n C dX11_addPorts_162 2 rfl ?_
          refine tw_sipush C dX11_addPorts_163 (v := nI 242) (by decide) ?_
          refine tw_callV (As := [.int (nI 242)]) (rest := []) C N (c_X11_add hM (B := B) (f := f) (xs := xs) hf (by first | omega | (simp only [List.length_append, List.length_take, be_len, List.length_cons, List.length_nil]; omega)) (b := 242)) mm_X11_add wd_424 rfl (hM 114 (by decide) (by decide)) sh_114 rfl (by decide) rfl (Nat.le_of_ble_eq_true rfl) dX11_addPorts_166 ?_
          rintro _ _ ⟨f39, rfl, hf39⟩
          show TW G X (MU B 120 8 f39 (xs ++ [242 % 256])) [(2, .int (nI 0)), (1, .int (nI 1)), (0, .ref (tw_ad G 114))] 169 []
          refine tw_aload_n C dX11_addPorts_169 2 rfl ?_
          refine tw_aload_n C dX11_addPorts_170 2 rfl ?_
          refine tw_getR (q := 118) (k := 3) C dX11_addPorts_171 fc_X11 sh_114 (hM 114 (by decide) (by decide)) rfl (by decide) wd_114 ?_
          refine tw_bipush C dX11_addPorts_174 (v := nI 41) (by decide) ?_
          refine tw_iald (v := nI (tp.getD 41 0)) C dX11_addPorts_176 sn_118 sa_118 (hM 118 (by decide) (by decide)) (by omega) (by decide) (hT 41 (by omega)) ?_
          refine tw_callV (As := [.int (nI (tp.getD 41 0))]) (rest := []) C N (c_X11_add hM (B := B) (f := f39) (xs := xs ++ [242 % 256]) hf39 (by first | omega | (simp only [List.length_append, List.length_take, be_len, List.length_cons, List.length_nil]; omega)) (b := tp.getD 41 0)) mm_X11_add wd_424 rfl (hM 114 (by decide) (by decide)) sh_114 rfl (by decide) rfl (Nat.le_of_ble_eq_true rfl) dX11_addPorts_177 ?_
          rintro _ _ ⟨f41, rfl, hf41⟩
          show TW G X (MU B 120 8 f41 ((xs ++ [242 % 256]) ++ [(tp.getD 41 0) % 256])) [(2, .int (nI 0)), (1, .int (nI 1)), (0, .ref (tw_ad G 114))] 180 []
          refine tw_aload_n C dX11_addPorts_180 2 rfl ?_
          refine tw_aload_n C dX11_addPorts_181 2 rfl ?_
          refine tw_getR (q := 118) (k := 3) C dX11_addPorts_182 fc_X11 sh_114 (hM 114 (by decide) (by decide)) rfl (by decide) wd_114 ?_
          refine tw_bipush C dX11_addPorts_185 (v := nI 42) (by decide) ?_
          refine tw_iald (v := nI (tp.getD 42 0)) C dX11_addPorts_187 sn_118 sa_118 (hM 118 (by decide) (by decide)) (by omega) (by decide) (hT 42 (by omega)) ?_
          refine tw_callV (As := [.int (nI (tp.getD 42 0))]) (rest := []) C N (c_X11_add hM (B := B) (f := f41) (xs := (xs ++ [242 % 256]) ++ [(tp.getD 41 0) % 256]) hf41 (by first | omega | (simp only [List.length_append, List.length_take, be_len, List.length_cons, List.length_nil]; omega)) (b := tp.getD 42 0)) mm_X11_add wd_424 rfl (hM 114 (by decide) (by decide)) sh_114 rfl (by decide) rfl (Nat.le_of_ble_eq_true rfl) dX11_addPorts_188 ?_
          rintro _ _ ⟨f43, rfl, hf43⟩
          show TW G X (MU B 120 8 f43 (((xs ++ [242 % 256]) ++ [(tp.getD 41 0) % 256]) ++ [(tp.getD 42 0) % 256])) [(2, .int (nI 0)), (1, .int (nI 1)), (0, .ref (tw_ad G 114))] 191 []
          refine tw_aload_n C dX11_addPorts_191 2 rfl ?_
          refine tw_aload_n C dX11_addPorts_192 2 rfl ?_
          refine tw_getR (q := 118) (k := 3) C dX11_addPorts_193 fc_X11 sh_114 (hM 114 (by decide) (by decide)) rfl (by decide) wd_114 ?_
          refine tw_bipush C dX11_addPorts_196 (v := nI 43) (by decide) ?_
          refine tw_iald (v := nI (tp.getD 43 0)) C dX11_addPorts_198 sn_118 sa_118 (hM 118 (by decide) (by decide)) (by omega) (by decide) (hT 43 (by omega)) ?_
          refine tw_callV (As := [.int (nI (tp.getD 43 0))]) (rest := []) C N (c_X11_add hM (B := B) (f := f43) (xs := ((xs ++ [242 % 256]) ++ [(tp.getD 41 0) % 256]) ++ [(tp.getD 42 0) % 256]) hf43 (by first | omega | (simp only [List.length_append, List.length_take, be_len, List.length_cons, List.length_nil]; omega)) (b := tp.getD 43 0)) mm_X11_add wd_424 rfl (hM 114 (by decide) (by decide)) sh_114 rfl (by decide) rfl (Nat.le_of_ble_eq_true rfl) dX11_addPorts_199 ?_
          rintro _ _ ⟨f45, rfl, hf45⟩
          show TW G X (MU B 120 8 f45 ((((xs ++ [242 % 256]) ++ [(tp.getD 41 0) % 256]) ++ [(tp.getD 42 0) % 256]) ++ [(tp.getD 43 0) % 256])) [(2, .int (nI 0)), (1, .int (nI 1)), (0, .ref (tw_ad G 114))] 202 []
          refine tw_goto C dX11_addPorts_202 (tgt := 256) (by decide) ?_
          refine tw_aload_n C dX11_addPorts_256 2 rfl ?_
          refine tw_aload_n C dX11_addPorts_257 2 rfl ?_
          refine tw_getR (q := 118) (k := 3) C dX11_addPorts_258 fc_X11 sh_114 (hM 114 (by decide) (by decide)) rfl (by decide) wd_114 ?_
          refine tw_bipush C dX11_addPorts_261 (v := nI 46) (by decide) ?_
          refine tw_iald (v := nI (tp.getD 46 0)) C dX11_addPorts_263 sn_118 sa_118 (hM 118 (by decide) (by decide)) (by omega) (by decide) (hT 46 (by omega)) ?_
          refine tw_callV (As := [.int (nI (tp.getD 46 0))]) (rest := []) C N (c_X11_add hM (B := B) (f := f45) (xs := (((xs ++ [242 % 256]) ++ [(tp.getD 41 0) % 256]) ++ [(tp.getD 42 0) % 256]) ++ [(tp.getD 43 0) % 256]) hf45 (by first | omega | (simp only [List.length_append, List.length_take, be_len, List.length_cons, List.length_nil]; omega)) (b := tp.getD 46 0)) mm_X11_add wd_424 rfl (hM 114 (by decide) (by decide)) sh_114 rfl (by decide) rfl (Nat.le_of_ble_eq_true rfl) dX11_addPorts_264 ?_
          rintro _ _ ⟨f47, rfl, hf47⟩
          show TW G X (MU B 120 8 f47 (((((xs ++ [242 % 256]) ++ [(tp.getD 41 0) % 256]) ++ [(tp.getD 42 0) % 256]) ++ [(tp.getD 43 0) % 256]) ++ [(tp.getD 46 0) % 256])) [(2, .int (nI 0)), (1, .int (nI 1)), (0, .ref (tw_ad G 114))] 267 []
          refine tw_aload_n C dX11_addPorts_267 2 rfl ?_
          refine tw_aload_n C dX11_addPorts_268 2 rfl ?_
          refine tw_getR (q := 118) (k := 3) C dX11_addPorts_269 fc_X11 sh_114 (hM 114 (by decide) (by decide)) rfl (by decide) wd_114 ?_
          refine tw_bipush C dX11_addPorts_272 (v := nI 47) (by decide) ?_
          refine tw_iald (v := nI (tp.getD 47 0)) C dX11_addPorts_274 sn_118 sa_118 (hM 118 (by decide) (by decide)) (by omega) (by decide) (hT 47 (by omega)) ?_
          refine tw_callV (As := [.int (nI (tp.getD 47 0))]) (rest := []) C N (c_X11_add hM (B := B) (f := f47) (xs := ((((xs ++ [242 % 256]) ++ [(tp.getD 41 0) % 256]) ++ [(tp.getD 42 0) % 256]) ++ [(tp.getD 43 0) % 256]) ++ [(tp.getD 46 0) % 256]) hf47 (by first | omega | (simp only [List.length_append, List.length_take, be_len, List.length_cons, List.length_nil]; omega)) (b := tp.getD 47 0)) mm_X11_add wd_424 rfl (hM 114 (by decide) (by decide)) sh_114 rfl (by decide) rfl (Nat.le_of_ble_eq_true rfl) dX11_addPorts_275 ?_
          rintro _ _ ⟨f49, rfl, hf49⟩
          show TW G X (MU B 120 8 f49 ((((((xs ++ [242 % 256]) ++ [(tp.getD 41 0) % 256]) ++ [(tp.getD 42 0) % 256]) ++ [(tp.getD 43 0) % 256]) ++ [(tp.getD 46 0) % 256]) ++ [(tp.getD 47 0) % 256])) [(2, .int (nI 0)), (1, .int (nI 1)), (0, .ref (tw_ad G 114))] 278 []
          have e1 : be (nb tp 40 2) 2 = [tp.getD 40 0, tp.getD 41 0] := by rw [m1]; exact be2 g40 g41
          have e2 : be (nb tp 42 2) 2 = [tp.getD 42 0, tp.getD 43 0] := by rw [m2]; exact be2 g42 g43
          have e3 : be (nb tp 46 2) 2 = [tp.getD 46 0, tp.getD 47 0] := by rw [m3]; exact be2 g46 g47
          have e7 : nb tp 40 2 % 256 = tp.getD 41 0 := by omega
          have he : (((((xs ++ [242 % 256]) ++ [(tp.getD 41 0) % 256]) ++ [(tp.getD 42 0) % 256]) ++ [(tp.getD 43 0) % 256]) ++ [(tp.getD 46 0) % 256]) ++ [(tp.getD 47 0) % 256] = xs ++ sqPo (nb tp 40 2) (nb tp 42 2) (nb tp 46 2) := by
            unfold sqPo
            rw [if_neg (by omega), if_neg (by omega), if_pos (by omega)]
            rw [e7, e2, e3]; simp only [Nat.mod_eq_of_lt g41, Nat.mod_eq_of_lt g42, Nat.mod_eq_of_lt g43, Nat.mod_eq_of_lt g46, Nat.mod_eq_of_lt g47, List.append_assoc]; rfl
          have hfl := hf49
          rw [he] at hfl ⊢
          exact tw_return (v := ()) C Q dX11_addPorts_278 rfl rfl ⟨f49, rfl, hfl⟩
        · exact absurd c37 (by decide)
      · exact absurd c36 (by decide)
    · skip
      refine tw_iconst C dX11_addPorts_32 (v := nI 1) (by decide) ?_
      refine tw_goto C dX11_addPorts_33 (tgt := 37) (by decide) ?_
      refine tw_istore_n (L' := [(2, .int (nI 1)), (1, .int (nI 1)), (0, .ref (tw_ad G 114))]) C N dX11_addPorts_37 rfl (by decide) rfl ?_
      refine tw_iload_n C dX11_addPorts_38 1 rfl ?_
      refine tn_if_eq C dX11_addPorts_39 (tgt := 111) (by decide) (by omega) (fun c51 => ?_) (fun c51 => ?_)
      · exact absurd c51 (by decide)
      refine tw_iload_n C dX11_addPorts_42 0 rfl ?_
      refine tn_if_eq C dX11_addPorts_43 (tgt := 111) (by decide) (by omega) (fun c52 => ?_) (fun c52 => ?_)
      · exact absurd c52 (by decide)
      refine tw_aload_n C dX11_addPorts_46 2 rfl ?_
      refine tw_getR (q := 118) (k := 3) C dX11_addPorts_47 fc_X11 sh_114 (hM 114 (by decide) (by decide)) rfl (by decide) wd_114 ?_
      refine tw_bipush C dX11_addPorts_50 (v := nI 41) (by decide) ?_
      refine tw_iald (v := nI (tp.getD 41 0)) C dX11_addPorts_52 sn_118 sa_118 (hM 118 (by decide) (by decide)) (by omega) (by decide) (hT 41 (by omega)) ?_
      refine tw_iconst C dX11_addPorts_53 (v := nI 4) (by decide) ?_
      refine tw_ishr C dX11_addPorts_54 (v := nI ((tp.getD 41 0) / 16)) (nI_shr (by omega) 4 (by decide)) ?_
      refine tw_bipush C dX11_addPorts_55 (v := nI 11) (by decide) ?_
      refine tn_icmp_ne C dX11_addPorts_57 (tgt := 111) (by decide) (by omega) (by omega) (fun c53 => ?_) (fun c53 => ?_)
      · skip
        refine tw_iload_n C dX11_addPorts_111 0 rfl ?_
        refine tn_if_eq C dX11_addPorts_112 (tgt := 158) (by decide) (by omega) (fun c54 => ?_) (fun c54 => ?_)
        · exact absurd c54 (by decide)
        refine tw_aload_n C dX11_addPorts_115 2 rfl ?_
        refine tw_sipush C dX11_addPorts_116 (v := nI 241) (by decide) ?_
        refine tw_callV (As := [.int (nI 241)]) (rest := []) C N (c_X11_add hM (B := B) (f := f) (xs := xs) hf (by first | omega | (simp only [List.length_append, List.length_take, be_len, List.length_cons, List.length_nil]; omega)) (b := 241)) mm_X11_add wd_424 rfl (hM 114 (by decide) (by decide)) sh_114 rfl (by decide) rfl (Nat.le_of_ble_eq_true rfl) dX11_addPorts_119 ?_
        rintro _ _ ⟨f55, rfl, hf55⟩
        show TW G X (MU B 120 8 f55 (xs ++ [241 % 256])) [(2, .int (nI 1)), (1, .int (nI 1)), (0, .ref (tw_ad G 114))] 122 []
        refine tw_aload_n C dX11_addPorts_122 2 rfl ?_
        refine tw_aload_n C dX11_addPorts_123 2 rfl ?_
        refine tw_getR (q := 118) (k := 3) C dX11_addPorts_124 fc_X11 sh_114 (hM 114 (by decide) (by decide)) rfl (by decide) wd_114 ?_
        refine tw_bipush C dX11_addPorts_127 (v := nI 40) (by decide) ?_
        refine tw_iald (v := nI (tp.getD 40 0)) C dX11_addPorts_129 sn_118 sa_118 (hM 118 (by decide) (by decide)) (by omega) (by decide) (hT 40 (by omega)) ?_
        refine tw_callV (As := [.int (nI (tp.getD 40 0))]) (rest := []) C N (c_X11_add hM (B := B) (f := f55) (xs := xs ++ [241 % 256]) hf55 (by first | omega | (simp only [List.length_append, List.length_take, be_len, List.length_cons, List.length_nil]; omega)) (b := tp.getD 40 0)) mm_X11_add wd_424 rfl (hM 114 (by decide) (by decide)) sh_114 rfl (by decide) rfl (Nat.le_of_ble_eq_true rfl) dX11_addPorts_130 ?_
        rintro _ _ ⟨f57, rfl, hf57⟩
        show TW G X (MU B 120 8 f57 ((xs ++ [241 % 256]) ++ [(tp.getD 40 0) % 256])) [(2, .int (nI 1)), (1, .int (nI 1)), (0, .ref (tw_ad G 114))] 133 []
        refine tw_aload_n C dX11_addPorts_133 2 rfl ?_
        refine tw_aload_n C dX11_addPorts_134 2 rfl ?_
        refine tw_getR (q := 118) (k := 3) C dX11_addPorts_135 fc_X11 sh_114 (hM 114 (by decide) (by decide)) rfl (by decide) wd_114 ?_
        refine tw_bipush C dX11_addPorts_138 (v := nI 41) (by decide) ?_
        refine tw_iald (v := nI (tp.getD 41 0)) C dX11_addPorts_140 sn_118 sa_118 (hM 118 (by decide) (by decide)) (by omega) (by decide) (hT 41 (by omega)) ?_
        refine tw_callV (As := [.int (nI (tp.getD 41 0))]) (rest := []) C N (c_X11_add hM (B := B) (f := f57) (xs := (xs ++ [241 % 256]) ++ [(tp.getD 40 0) % 256]) hf57 (by first | omega | (simp only [List.length_append, List.length_take, be_len, List.length_cons, List.length_nil]; omega)) (b := tp.getD 41 0)) mm_X11_add wd_424 rfl (hM 114 (by decide) (by decide)) sh_114 rfl (by decide) rfl (Nat.le_of_ble_eq_true rfl) dX11_addPorts_141 ?_
        rintro _ _ ⟨f59, rfl, hf59⟩
        show TW G X (MU B 120 8 f59 (((xs ++ [241 % 256]) ++ [(tp.getD 40 0) % 256]) ++ [(tp.getD 41 0) % 256])) [(2, .int (nI 1)), (1, .int (nI 1)), (0, .ref (tw_ad G 114))] 144 []
        refine tw_aload_n C dX11_addPorts_144 2 rfl ?_
        refine tw_aload_n C dX11_addPorts_145 2 rfl ?_
        refine tw_getR (q := 118) (k := 3) C dX11_addPorts_146 fc_X11 sh_114 (hM 114 (by decide) (by decide)) rfl (by decide) wd_114 ?_
        refine tw_bipush C dX11_addPorts_149 (v := nI 43) (by decide) ?_
        refine tw_iald (v := nI (tp.getD 43 0)) C dX11_addPorts_151 sn_118 sa_118 (hM 118 (by decide) (by decide)) (by omega) (by decide) (hT 43 (by omega)) ?_
        refine tw_callV (As := [.int (nI (tp.getD 43 0))]) (rest := []) C N (c_X11_add hM (B := B) (f := f59) (xs := ((xs ++ [241 % 256]) ++ [(tp.getD 40 0) % 256]) ++ [(tp.getD 41 0) % 256]) hf59 (by first | omega | (simp only [List.length_append, List.length_take, be_len, List.length_cons, List.length_nil]; omega)) (b := tp.getD 43 0)) mm_X11_add wd_424 rfl (hM 114 (by decide) (by decide)) sh_114 rfl (by decide) rfl (Nat.le_of_ble_eq_true rfl) dX11_addPorts_152 ?_
        rintro _ _ ⟨f61, rfl, hf61⟩
        show TW G X (MU B 120 8 f61 ((((xs ++ [241 % 256]) ++ [(tp.getD 40 0) % 256]) ++ [(tp.getD 41 0) % 256]) ++ [(tp.getD 43 0) % 256])) [(2, .int (nI 1)), (1, .int (nI 1)), (0, .ref (tw_ad G 114))] 155 []
        refine tw_goto C dX11_addPorts_155 (tgt := 256) (by decide) ?_
        refine tw_aload_n C dX11_addPorts_256 2 rfl ?_
        refine tw_aload_n C dX11_addPorts_257 2 rfl ?_
        refine tw_getR (q := 118) (k := 3) C dX11_addPorts_258 fc_X11 sh_114 (hM 114 (by decide) (by decide)) rfl (by decide) wd_114 ?_
        refine tw_bipush C dX11_addPorts_261 (v := nI 46) (by decide) ?_
        refine tw_iald (v := nI (tp.getD 46 0)) C dX11_addPorts_263 sn_118 sa_118 (hM 118 (by decide) (by decide)) (by omega) (by decide) (hT 46 (by omega)) ?_
        refine tw_callV (As := [.int (nI (tp.getD 46 0))]) (rest := []) C N (c_X11_add hM (B := B) (f := f61) (xs := (((xs ++ [241 % 256]) ++ [(tp.getD 40 0) % 256]) ++ [(tp.getD 41 0) % 256]) ++ [(tp.getD 43 0) % 256]) hf61 (by first | omega | (simp only [List.length_append, List.length_take, be_len, List.length_cons, List.length_nil]; omega)) (b := tp.getD 46 0)) mm_X11_add wd_424 rfl (hM 114 (by decide) (by decide)) sh_114 rfl (by decide) rfl (Nat.le_of_ble_eq_true rfl) dX11_addPorts_264 ?_
        rintro _ _ ⟨f63, rfl, hf63⟩
        show TW G X (MU B 120 8 f63 (((((xs ++ [241 % 256]) ++ [(tp.getD 40 0) % 256]) ++ [(tp.getD 41 0) % 256]) ++ [(tp.getD 43 0) % 256]) ++ [(tp.getD 46 0) % 256])) [(2, .int (nI 1)), (1, .int (nI 1)), (0, .ref (tw_ad G 114))] 267 []
        refine tw_aload_n C dX11_addPorts_267 2 rfl ?_
        refine tw_aload_n C dX11_addPorts_268 2 rfl ?_
        refine tw_getR (q := 118) (k := 3) C dX11_addPorts_269 fc_X11 sh_114 (hM 114 (by decide) (by decide)) rfl (by decide) wd_114 ?_
        refine tw_bipush C dX11_addPorts_272 (v := nI 47) (by decide) ?_
        refine tw_iald (v := nI (tp.getD 47 0)) C dX11_addPorts_274 sn_118 sa_118 (hM 118 (by decide) (by decide)) (by omega) (by decide) (hT 47 (by omega)) ?_
        refine tw_callV (As := [.int (nI (tp.getD 47 0))]) (rest := []) C N (c_X11_add hM (B := B) (f := f63) (xs := ((((xs ++ [241 % 256]) ++ [(tp.getD 40 0) % 256]) ++ [(tp.getD 41 0) % 256]) ++ [(tp.getD 43 0) % 256]) ++ [(tp.getD 46 0) % 256]) hf63 (by first | omega | (simp only [List.length_append, List.length_take, be_len, List.length_cons, List.length_nil]; omega)) (b := tp.getD 47 0)) mm_X11_add wd_424 rfl (hM 114 (by decide) (by decide)) sh_114 rfl (by decide) rfl (Nat.le_of_ble_eq_true rfl) dX11_addPorts_275 ?_
        rintro _ _ ⟨f65, rfl, hf65⟩
        show TW G X (MU B 120 8 f65 ((((((xs ++ [241 % 256]) ++ [(tp.getD 40 0) % 256]) ++ [(tp.getD 41 0) % 256]) ++ [(tp.getD 43 0) % 256]) ++ [(tp.getD 46 0) % 256]) ++ [(tp.getD 47 0) % 256])) [(2, .int (nI 1)), (1, .int (nI 1)), (0, .ref (tw_ad G 114))] 278 []
        have e1 : be (nb tp 40 2) 2 = [tp.getD 40 0, tp.getD 41 0] := by rw [m1]; exact be2 g40 g41
        have e2 : be (nb tp 42 2) 2 = [tp.getD 42 0, tp.getD 43 0] := by rw [m2]; exact be2 g42 g43
        have e3 : be (nb tp 46 2) 2 = [tp.getD 46 0, tp.getD 47 0] := by rw [m3]; exact be2 g46 g47
        have e6 : nb tp 42 2 % 256 = tp.getD 43 0 := by omega
        have he : (((((xs ++ [241 % 256]) ++ [(tp.getD 40 0) % 256]) ++ [(tp.getD 41 0) % 256]) ++ [(tp.getD 43 0) % 256]) ++ [(tp.getD 46 0) % 256]) ++ [(tp.getD 47 0) % 256] = xs ++ sqPo (nb tp 40 2) (nb tp 42 2) (nb tp 46 2) := by
          unfold sqPo
          rw [if_neg (by omega), if_pos (by omega)]
          rw [e6, e1, e3]; simp only [Nat.mod_eq_of_lt g40, Nat.mod_eq_of_lt g41, Nat.mod_eq_of_lt g43, Nat.mod_eq_of_lt g46, Nat.mod_eq_of_lt g47, List.append_assoc]; rfl
        have hfl := hf65
        rw [he] at hfl ⊢
        exact tw_return (v := ()) C Q dX11_addPorts_278 rfl rfl ⟨f65, rfl, hfl⟩
      · skip
        refine tw_aload_n C dX11_addPorts_60 2 rfl ?_
        refine tw_getR (q := 118) (k := 3) C dX11_addPorts_61 fc_X11 sh_114 (hM 114 (by decide) (by decide)) rfl (by decide) wd_114 ?_
        refine tw_bipush C dX11_addPorts_64 (v := nI 43) (by decide) ?_
        refine tw_iald (v := nI (tp.getD 43 0)) C dX11_addPorts_66 sn_118 sa_118 (hM 118 (by decide) (by decide)) (by omega) (by decide) (hT 43 (by omega)) ?_
        refine tw_iconst C dX11_addPorts_67 (v := nI 4) (by decide) ?_
        refine tw_ishr C dX11_addPorts_68 (v := nI ((tp.getD 43 0) / 16)) (nI_shr (by omega) 4 (by decide)) ?_
        refine tw_bipush C dX11_addPorts_69 (v := nI 11) (by decide) ?_
        refine tn_icmp_ne C dX11_addPorts_71 (tgt := 111) (by decide) (by omega) (by omega) (fun c67 => ?_) (fun c67 => ?_)
        · skip
          refine tw_iload_n C dX11_addPorts_111 0 rfl ?_
          refine tn_if_eq C dX11_addPorts_112 (tgt := 158) (by decide) (by omega) (fun c68 => ?_) (fun c68 => ?_)
          · exact absurd c68 (by decide)
          refine tw_aload_n C dX11_addPorts_115 2 rfl ?_
          refine tw_sipush C dX11_addPorts_116 (v := nI 241) (by decide) ?_
          refine tw_callV (As := [.int (nI 241)]) (rest := []) C N (c_X11_add hM (B := B) (f := f) (xs := xs) hf (by first | omega | (simp only [List.length_append, List.length_take, be_len, List.length_cons, List.length_nil]; omega)) (b := 241)) mm_X11_add wd_424 rfl (hM 114 (by decide) (by decide)) sh_114 rfl (by decide) rfl (Nat.le_of_ble_eq_true rfl) dX11_addPorts_119 ?_
          rintro _ _ ⟨f69, rfl, hf69⟩
          show TW G X (MU B 120 8 f69 (xs ++ [241 % 256])) [(2, .int (nI 1)), (1, .int (nI 1)), (0, .ref (tw_ad G 114))] 122 []
          refine tw_aload_n C dX11_addPorts_122 2 rfl ?_
          refine tw_aload_n C dX11_addPorts_123 2 rfl ?_
          refine tw_getR (q := 118) (k := 3) C dX11_addPorts_124 fc_X11 sh_114 (hM 114 (by decide) (by decide)) rfl (by decide) wd_114 ?_
          refine tw_bipush C dX11_addPorts_127 (v := nI 40) (by decide) ?_
          refine tw_iald (v := nI (tp.getD 40 0)) C dX11_addPorts_129 sn_118 sa_118 (hM 118 (by decide) (by decide)) (by omega) (by decide) (hT 40 (by omega)) ?_
          refine tw_callV (As := [.int (nI (tp.getD 40 0))]) (rest := []) C N (c_X11_add hM (B := B) (f := f69) (xs := xs ++ [241 % 256]) hf69 (by first | omega | (simp only [List.length_append, List.length_take, be_len, List.length_cons, List.length_nil]; omega)) (b := tp.getD 40 0)) mm_X11_add wd_424 rfl (hM 114 (by decide) (by decide)) sh_114 rfl (by decide) rfl (Nat.le_of_ble_eq_true rfl) dX11_addPorts_130 ?_
          rintro _ _ ⟨f71, rfl, hf71⟩
          show TW G X (MU B 120 8 f71 ((xs ++ [241 % 256]) ++ [(tp.getD 40 0) % 256])) [(2, .int (nI 1)), (1, .int (nI 1)), (0, .ref (tw_ad G 114))] 133 []
          refine tw_aload_n C dX11_addPorts_133 2 rfl ?_
          refine tw_aload_n C dX11_addPorts_134 2 rfl ?_
          refine tw_getR (q := 118) (k := 3) C dX11_addPorts_135 fc_X11 sh_114 (hM 114 (by decide) (by decide)) rfl (by decide) wd_114 ?_
          refine tw_bipush C dX11_addPorts_138 (v := nI 41) (by decide) ?_
          refine tw_iald (v := nI (tp.getD 41 0)) C dX11_addPorts_140 sn_118 sa_118 (hM 118 (by decide) (by decide)) (by omega) (by decide) (hT 41 (by omega)) ?_
          refine tw_callV (As := [.int (nI (tp.getD 41 0))]) (rest := []) C N (c_X11_add hM (B := B) (f := f71) (xs := (xs ++ [241 % 256]) ++ [(tp.getD 40 0) % 256]) hf71 (by first | omega | (simp only [List.length_append, List.length_take, be_len, List.length_cons, List.length_nil]; omega)) (b := tp.getD 41 0)) mm_X11_add wd_424 rfl (hM 114 (by decide) (by decide)) sh_114 rfl (by decide) rfl (Nat.le_of_ble_eq_true rfl) dX11_addPorts_141 ?_
          rintro _ _ ⟨f73, rfl, hf73⟩
          show TW G X (MU B 120 8 f73 (((xs ++ [241 % 256]) ++ [(tp.getD 40 0) % 256]) ++ [(tp.getD 41 0) % 256])) [(2, .int (nI 1)), (1, .int (nI 1)), (0, .ref (tw_ad G 114))] 144 []
          refine tw_aload_n C dX11_addPorts_144 2 rfl ?_
          refine tw_aload_n C dX11_addPorts_145 2 rfl ?_
          refine tw_getR (q := 118) (k := 3) C dX11_addPorts_146 fc_X11 sh_114 (hM 114 (by decide) (by decide)) rfl (by decide) wd_114 ?_
          refine tw_bipush C dX11_addPorts_149 (v := nI 43) (by decide) ?_
          refine tw_iald (v := nI (tp.getD 43 0)) C dX11_addPorts_151 sn_118 sa_118 (hM 118 (by decide) (by decide)) (by omega) (by decide) (hT 43 (by omega)) ?_
          refine tw_callV (As := [.int (nI (tp.getD 43 0))]) (rest := []) C N (c_X11_add hM (B := B) (f := f73) (xs := ((xs ++ [241 % 256]) ++ [(tp.getD 40 0) % 256]) ++ [(tp.getD 41 0) % 256]) hf73 (by first | omega | (simp only [List.length_append, List.length_take, be_len, List.length_cons, List.length_nil]; omega)) (b := tp.getD 43 0)) mm_X11_add wd_424 rfl (hM 114 (by decide) (by decide)) sh_114 rfl (by decide) rfl (Nat.le_of_ble_eq_true rfl) dX11_addPorts_152 ?_
          rintro _ _ ⟨f75, rfl, hf75⟩
          show TW G X (MU B 120 8 f75 ((((xs ++ [241 % 256]) ++ [(tp.getD 40 0) % 256]) ++ [(tp.getD 41 0) % 256]) ++ [(tp.getD 43 0) % 256])) [(2, .int (nI 1)), (1, .int (nI 1)), (0, .ref (tw_ad G 114))] 155 []
          refine tw_goto C dX11_addPorts_155 (tgt := 256) (by decide) ?_
          refine tw_aload_n C dX11_addPorts_256 2 rfl ?_
          refine tw_aload_n C dX11_addPorts_257 2 rfl ?_
          refine tw_getR (q := 118) (k := 3) C dX11_addPorts_258 fc_X11 sh_114 (hM 114 (by decide) (by decide)) rfl (by decide) wd_114 ?_
          refine tw_bipush C dX11_addPorts_261 (v := nI 46) (by decide) ?_
          refine tw_iald (v := nI (tp.getD 46 0)) C dX11_addPorts_263 sn_118 sa_118 (hM 118 (by decide) (by decide)) (by omega) (by decide) (hT 46 (by omega)) ?_
          refine tw_callV (As := [.int (nI (tp.getD 46 0))]) (rest := []) C N (c_X11_add hM (B := B) (f := f75) (xs := (((xs ++ [241 % 256]) ++ [(tp.getD 40 0) % 256]) ++ [(tp.getD 41 0) % 256]) ++ [(tp.getD 43 0) % 256]) hf75 (by first | omega | (simp only [List.length_append, List.length_take, be_len, List.length_cons, List.length_nil]; omega)) (b := tp.getD 46 0)) mm_X11_add wd_424 rfl (hM 114 (by decide) (by decide)) sh_114 rfl (by decide) rfl (Nat.le_of_ble_eq_true rfl) dX11_addPorts_264 ?_
          rintro _ _ ⟨f77, rfl, hf77⟩
          show TW G X (MU B 120 8 f77 (((((xs ++ [241 % 256]) ++ [(tp.getD 40 0) % 256]) ++ [(tp.getD 41 0) % 256]) ++ [(tp.getD 43 0) % 256]) ++ [(tp.getD 46 0) % 256])) [(2, .int (nI 1)), (1, .int (nI 1)), (0, .ref (tw_ad G 114))] 267 []
          refine tw_aload_n C dX11_addPorts_267 2 rfl ?_
          refine tw_aload_n C dX11_addPorts_268 2 rfl ?_
          refine tw_getR (q := 118) (k := 3) C dX11_addPorts_269 fc_X11 sh_114 (hM 114 (by decide) (by decide)) rfl (by decide) wd_114 ?_
          refine tw_bipush C dX11_addPorts_272 (v := nI 47) (by decide) ?_
          refine tw_iald (v := nI (tp.getD 47 0)) C dX11_addPorts_274 sn_118 sa_118 (hM 118 (by decide) (by decide)) (by omega) (by decide) (hT 47 (by omega)) ?_
          refine tw_callV (As := [.int (nI (tp.getD 47 0))]) (rest := []) C N (c_X11_add hM (B := B) (f := f77) (xs := ((((xs ++ [241 % 256]) ++ [(tp.getD 40 0) % 256]) ++ [(tp.getD 41 0) % 256]) ++ [(tp.getD 43 0) % 256]) ++ [(tp.getD 46 0) % 256]) hf77 (by first | omega | (simp only [List.length_append, List.length_take, be_len, List.length_cons, List.length_nil]; omega)) (b := tp.getD 47 0)) mm_X11_add wd_424 rfl (hM 114 (by decide) (by decide)) sh_114 rfl (by decide) rfl (Nat.le_of_ble_eq_true rfl) dX11_addPorts_275 ?_
          rintro _ _ ⟨f79, rfl, hf79⟩
          show TW G X (MU B 120 8 f79 ((((((xs ++ [241 % 256]) ++ [(tp.getD 40 0) % 256]) ++ [(tp.getD 41 0) % 256]) ++ [(tp.getD 43 0) % 256]) ++ [(tp.getD 46 0) % 256]) ++ [(tp.getD 47 0) % 256])) [(2, .int (nI 1)), (1, .int (nI 1)), (0, .ref (tw_ad G 114))] 278 []
          have e1 : be (nb tp 40 2) 2 = [tp.getD 40 0, tp.getD 41 0] := by rw [m1]; exact be2 g40 g41
          have e2 : be (nb tp 42 2) 2 = [tp.getD 42 0, tp.getD 43 0] := by rw [m2]; exact be2 g42 g43
          have e3 : be (nb tp 46 2) 2 = [tp.getD 46 0, tp.getD 47 0] := by rw [m3]; exact be2 g46 g47
          have e6 : nb tp 42 2 % 256 = tp.getD 43 0 := by omega
          have he : (((((xs ++ [241 % 256]) ++ [(tp.getD 40 0) % 256]) ++ [(tp.getD 41 0) % 256]) ++ [(tp.getD 43 0) % 256]) ++ [(tp.getD 46 0) % 256]) ++ [(tp.getD 47 0) % 256] = xs ++ sqPo (nb tp 40 2) (nb tp 42 2) (nb tp 46 2) := by
            unfold sqPo
            rw [if_neg (by omega), if_pos (by omega)]
            rw [e6, e1, e3]; simp only [Nat.mod_eq_of_lt g40, Nat.mod_eq_of_lt g41, Nat.mod_eq_of_lt g43, Nat.mod_eq_of_lt g46, Nat.mod_eq_of_lt g47, List.append_assoc]; rfl
          have hfl := hf79
          rw [he] at hfl ⊢
          exact tw_return (v := ()) C Q dX11_addPorts_278 rfl rfl ⟨f79, rfl, hfl⟩
        · skip
          refine tw_aload_n C dX11_addPorts_74 2 rfl ?_
          refine tw_sipush C dX11_addPorts_75 (v := nI 243) (by decide) ?_
          refine tw_callV (As := [.int (nI 243)]) (rest := []) C N (c_X11_add hM (B := B) (f := f) (xs := xs) hf (by first | omega | (simp only [List.length_append, List.length_take, be_len, List.length_cons, List.length_nil]; omega)) (b := 243)) mm_X11_add wd_424 rfl (hM 114 (by decide) (by decide)) sh_114 rfl (by decide) rfl (Nat.le_of_ble_eq_true rfl) dX11_addPorts_78 ?_
          rintro _ _ ⟨f81, rfl, hf81⟩
          show TW G X (MU B 120 8 f81 (xs ++ [243 % 256])) [(2, .int (nI 1)), (1, .int (nI 1)), (0, .ref (tw_ad G 114))] 81 []
          refine tw_aload_n C dX11_addPorts_81 2 rfl ?_
          refine tw_aload_n C dX11_addPorts_82 2 rfl ?_
          refine tw_getR (q := 118) (k := 3) C dX11_addPorts_83 fc_X11 sh_114 (hM 114 (by decide) (by decide)) rfl (by decide) wd_114 ?_
          refine tw_bipush C dX11_addPorts_86 (v := nI 41) (by decide) ?_
          refine tw_iald (v := nI (tp.getD 41 0)) C dX11_addPorts_88 sn_118 sa_118 (hM 118 (by decide) (by decide)) (by omega) (by decide) (hT 41 (by omega)) ?_
          refine tw_bipush C dX11_addPorts_89 (v := nI 15) (by decide) ?_
          refine tw_iand C dX11_addPorts_91 (v := nI ((tp.getD 41 0) % 16)) (nI_andm 4 (by decide)) ?_
          refine tw_iconst C dX11_addPorts_92 (v := nI 4) (by decide) ?_
          refine tw_ishl C dX11_addPorts_93 (v := nI (((tp.getD 41 0) % 16) * 16)) (nI_shl _ 4 (by decide)) ?_
          refine tw_aload_n C dX11_addPorts_94 2 rfl ?_
          refine tw_getR (q := 118) (k := 3) C dX11_addPorts_95 fc_X11 sh_114 (hM 114 (by decide) (by decide)) rfl (by decide) wd_114 ?_
          refine tw_bipush C dX11_addPorts_98 (v := nI 43) (by decide) ?_
          refine tw_iald (v := nI (tp.getD 43 0)) C dX11_addPorts_100 sn_118 sa_118 (hM 118 (by decide) (by decide)) (by omega) (by decide) (hT 43 (by omega)) ?_
          refine tw_bipush C dX11_addPorts_101 (v := nI 15) (by decide) ?_
          refine tw_iand C dX11_addPorts_103 (v := nI ((tp.getD 43 0) % 16)) (nI_andm 4 (by decide)) ?_
          refine tw_ior C dX11_addPorts_104 (v := nI ((((tp.getD 41 0) % 16) * 16) ||| ((tp.getD 43 0) % 16))) (nI_or _ _) ?_
          refine tw_callV (As := [.int (nI ((((tp.getD 41 0) % 16) * 16) ||| ((tp.getD 43 0) % 16)))]) (rest := []) C N (c_X11_add hM (B := B) (f := f81) (xs := xs ++ [243 % 256]) hf81 (by first | omega | (simp only [List.length_append, List.length_take, be_len, List.length_cons, List.length_nil]; omega)) (b := (((tp.getD 41 0) % 16) * 16) ||| ((tp.getD 43 0) % 16))) mm_X11_add wd_424 rfl (hM 114 (by decide) (by decide)) sh_114 rfl (by decide) rfl (Nat.le_of_ble_eq_true rfl) dX11_addPorts_105 ?_
          rintro _ _ ⟨f83, rfl, hf83⟩
          show TW G X (MU B 120 8 f83 ((xs ++ [243 % 256]) ++ [((((tp.getD 41 0) % 16) * 16) ||| ((tp.getD 43 0) % 16)) % 256])) [(2, .int (nI 1)), (1, .int (nI 1)), (0, .ref (tw_ad G 114))] 108 []
          refine tw_goto C dX11_addPorts_108 (tgt := 256) (by decide) ?_
          refine tw_aload_n C dX11_addPorts_256 2 rfl ?_
          refine tw_aload_n C dX11_addPorts_257 2 rfl ?_
          refine tw_getR (q := 118) (k := 3) C dX11_addPorts_258 fc_X11 sh_114 (hM 114 (by decide) (by decide)) rfl (by decide) wd_114 ?_
          refine tw_bipush C dX11_addPorts_261 (v := nI 46) (by decide) ?_
          refine tw_iald (v := nI (tp.getD 46 0)) C dX11_addPorts_263 sn_118 sa_118 (hM 118 (by decide) (by decide)) (by omega) (by decide) (hT 46 (by omega)) ?_
          refine tw_callV (As := [.int (nI (tp.getD 46 0))]) (rest := []) C N (c_X11_add hM (B := B) (f := f83) (xs := (xs ++ [243 % 256]) ++ [((((tp.getD 41 0) % 16) * 16) ||| ((tp.getD 43 0) % 16)) % 256]) hf83 (by first | omega | (simp only [List.length_append, List.length_take, be_len, List.length_cons, List.length_nil]; omega)) (b := tp.getD 46 0)) mm_X11_add wd_424 rfl (hM 114 (by decide) (by decide)) sh_114 rfl (by decide) rfl (Nat.le_of_ble_eq_true rfl) dX11_addPorts_264 ?_
          rintro _ _ ⟨f85, rfl, hf85⟩
          show TW G X (MU B 120 8 f85 (((xs ++ [243 % 256]) ++ [((((tp.getD 41 0) % 16) * 16) ||| ((tp.getD 43 0) % 16)) % 256]) ++ [(tp.getD 46 0) % 256])) [(2, .int (nI 1)), (1, .int (nI 1)), (0, .ref (tw_ad G 114))] 267 []
          refine tw_aload_n C dX11_addPorts_267 2 rfl ?_
          refine tw_aload_n C dX11_addPorts_268 2 rfl ?_
          refine tw_getR (q := 118) (k := 3) C dX11_addPorts_269 fc_X11 sh_114 (hM 114 (by decide) (by decide)) rfl (by decide) wd_114 ?_
          refine tw_bipush C dX11_addPorts_272 (v := nI 47) (by decide) ?_
          refine tw_iald (v := nI (tp.getD 47 0)) C dX11_addPorts_274 sn_118 sa_118 (hM 118 (by decide) (by decide)) (by omega) (by decide) (hT 47 (by omega)) ?_
          refine tw_callV (As := [.int (nI (tp.getD 47 0))]) (rest := []) C N (c_X11_add hM (B := B) (f := f85) (xs := ((xs ++ [243 % 256]) ++ [((((tp.getD 41 0) % 16) * 16) ||| ((tp.getD 43 0) % 16)) % 256]) ++ [(tp.getD 46 0) % 256]) hf85 (by first | omega | (simp only [List.length_append, List.length_take, be_len, List.length_cons, List.length_nil]; omega)) (b := tp.getD 47 0)) mm_X11_add wd_424 rfl (hM 114 (by decide) (by decide)) sh_114 rfl (by decide) rfl (Nat.le_of_ble_eq_true rfl) dX11_addPorts_275 ?_
          rintro _ _ ⟨f87, rfl, hf87⟩
          show TW G X (MU B 120 8 f87 ((((xs ++ [243 % 256]) ++ [((((tp.getD 41 0) % 16) * 16) ||| ((tp.getD 43 0) % 16)) % 256]) ++ [(tp.getD 46 0) % 256]) ++ [(tp.getD 47 0) % 256])) [(2, .int (nI 1)), (1, .int (nI 1)), (0, .ref (tw_ad G 114))] 278 []
          have e1 : be (nb tp 40 2) 2 = [tp.getD 40 0, tp.getD 41 0] := by rw [m1]; exact be2 g40 g41
          have e2 : be (nb tp 42 2) 2 = [tp.getD 42 0, tp.getD 43 0] := by rw [m2]; exact be2 g42 g43
          have e3 : be (nb tp 46 2) 2 = [tp.getD 46 0, tp.getD 47 0] := by rw [m3]; exact be2 g46 g47
          have e5 : (tp.getD 41 0 % 16 * 16 ||| tp.getD 43 0 % 16) % 256 = nb tp 40 2 % 16 * 16 + nb tp 42 2 % 16 := by rw [or16d _ (Nat.mod_lt _ (by decide)) _ (Nat.mod_lt _ (by decide))]; omega
          have he : (((xs ++ [243 % 256]) ++ [((((tp.getD 41 0) % 16) * 16) ||| ((tp.getD 43 0) % 16)) % 256]) ++ [(tp.getD 46 0) % 256]) ++ [(tp.getD 47 0) % 256] = xs ++ sqPo (nb tp 40 2) (nb tp 42 2) (nb tp 46 2) := by
            unfold sqPo
            rw [if_pos (by omega)]
            rw [e5, e3]; simp only [Nat.mod_eq_of_lt g46, Nat.mod_eq_of_lt g47, List.append_assoc]; rfl
          have hfl := hf87
          rw [he] at hfl ⊢
          exact tw_return (v := ()) C Q dX11_addPorts_278 rfl rfl ⟨f87, rfl, hfl⟩
