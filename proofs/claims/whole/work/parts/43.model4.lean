/-! the model reads its tape -/
def zB (xs : List Nat) (a : Nat) : Nat → Bool
  | 0 => true
  | d + 1 => zB xs a d && decide (xs.getD (a + d) 0 = 0)
theorem zB_nb (xs : List Nat) (a : Nat) : ∀ d, zB xs a d = decide (nb xs a d = 0)
  | 0 => rfl
  | d + 1 => by
    rw [zB, zB_nb xs a d, nb, ← Bool.decide_and]
    exact decide_eq_decide.mpr (by omega)
theorem nb_ad (xs : List Nat) (f a : Nat) : ∀ b, nb xs f (a + b) = nb xs f a * 256 ^ b + nb xs (f + a) b
  | 0 => by simp [nb]
  | b + 1 => by
    rw [← Nat.add_assoc, nb, nb_ad xs f a b, nb, Nat.pow_succ, Nat.add_mul, ← Nat.mul_assoc, Nat.add_assoc f a b, Nat.add_assoc]
theorem or_nb {a b : Nat} (hb : b < 256) : nI (a * 256) ||| nI b = nI (a * 256 + b) := by
  have h := Nat.two_pow_add_eq_or_of_lt (i := 8) hb a
  rw [nI_or]
  congr 1
  rw [Nat.mul_comm a 256]
  exact h.symm
theorem c_X11_isPacket {G : tw_G} (hM : tw_mG G) {S : tw_S} {tp : List Nat} (hT : LA (tw_A S 118) tp) (htb : ∀ x ∈ tp, x < 256) (htl : tp.length ≤ 640) (hI4 : tw_I S 114 4 = nI tp.length) : tw_M G yX11_isPacket cX11_isPacket 1 (some .boolean) 0 0 [.ref (tw_ad G 114)] S ri_I (fun v S' => v = bI (isPkB tp) ∧ S = S') := by
  refine tw_M.of (L := [(0, .ref (tw_ad G 114))]) (by decide) (Nat.le_of_ble_eq_true rfl) rfl (fun X C N Q => ?_)
  have C : tw_C G X cX11_isPacket RX11 := C
  have hb0 := gD_lt htb 0
  have hb4 := gD_lt htb 4
  have hb5 := gD_lt htb 5
  have hn2 : nb tp 4 2 = tp.getD 4 0 * 256 + tp.getD 5 0 := by show (0 * 256 + tp.getD 4 0) * 256 + tp.getD 5 0 = _; omega
  refine tw_aload_n C dX11_isPacket_0 0 rfl ?_
  refine tw_getI (v := nI tp.length) (k := 4) C dX11_isPacket_1 fc_X11 sh_114 (hM 114 (by decide) (by decide)) rfl (by decide) wd_189 hI4 ?_
  refine tw_bipush C dX11_isPacket_4 (v := nI 40) (by decide) ?_
  refine tn_icmp_lt C dX11_isPacket_6 (tgt := 62) (by decide) (by omega) (by omega) (fun c1 => ?_) (fun c1 => ?_)
  · skip
    refine tw_iconst C dX11_isPacket_62 (v := nI 0) (by decide) ?_
    exact tw_ireturn C Q dX11_isPacket_63 rfl rfl rfl ⟨by rw [show isPkB tp = false from Bool.eq_false_iff.mpr (fun h => by rw [isPkB_iff] at h; obtain ⟨h1, h2, h3, h4⟩ := h; rw [hn2] at h4; omega)]; rfl, rfl⟩
  · skip
    refine tw_aload_n C dX11_isPacket_9 0 rfl ?_
    refine tw_getR (q := 118) (k := 3) C dX11_isPacket_10 fc_X11 sh_114 (hM 114 (by decide) (by decide)) rfl (by decide) wd_114 ?_
    refine tw_iconst C dX11_isPacket_13 (v := nI 0) (by decide) ?_
    refine tw_iald (v := nI (tp.getD 0 0)) C dX11_isPacket_14 sn_118 sa_118 (hM 118 (by decide) (by decide)) (by omega) (by decide) (hT 0 (by omega)) ?_
    refine tw_iconst C dX11_isPacket_15 (v := nI 4) (by decide) ?_
    refine tw_ishr C dX11_isPacket_16 (v := nI ((tp.getD 0 0) / 16)) (nI_shr (by omega) 4 (by decide)) ?_
    refine tw_bipush C dX11_isPacket_17 (v := nI 6) (by decide) ?_
    refine tn_icmp_ne C dX11_isPacket_19 (tgt := 62) (by decide) (by omega) (by omega) (fun c2 => ?_) (fun c2 => ?_)
    · skip
      refine tw_iconst C dX11_isPacket_62 (v := nI 0) (by decide) ?_
      exact tw_ireturn C Q dX11_isPacket_63 rfl rfl rfl ⟨by rw [show isPkB tp = false from Bool.eq_false_iff.mpr (fun h => by rw [isPkB_iff] at h; obtain ⟨h1, h2, h3, h4⟩ := h; rw [hn2] at h4; omega)]; rfl, rfl⟩
    · skip
      refine tw_aload_n C dX11_isPacket_22 0 rfl ?_
      refine tw_getR (q := 118) (k := 3) C dX11_isPacket_23 fc_X11 sh_114 (hM 114 (by decide) (by decide)) rfl (by decide) wd_114 ?_
      refine tw_iconst C dX11_isPacket_26 (v := nI 4) (by decide) ?_
      refine tw_iald (v := nI (tp.getD 4 0)) C dX11_isPacket_27 sn_118 sa_118 (hM 118 (by decide) (by decide)) (by omega) (by decide) (hT 4 (by omega)) ?_
      refine tw_bipush C dX11_isPacket_28 (v := nI 8) (by decide) ?_
      refine tw_ishl C dX11_isPacket_30 (v := nI ((tp.getD 4 0) * 256)) (nI_shl _ 8 (by decide)) ?_
      refine tw_aload_n C dX11_isPacket_31 0 rfl ?_
      refine tw_getR (q := 118) (k := 3) C dX11_isPacket_32 fc_X11 sh_114 (hM 114 (by decide) (by decide)) rfl (by decide) wd_114 ?_
      refine tw_iconst C dX11_isPacket_35 (v := nI 5) (by decide) ?_
      refine tw_iald (v := nI (tp.getD 5 0)) C dX11_isPacket_36 sn_118 sa_118 (hM 118 (by decide) (by decide)) (by omega) (by decide) (hT 5 (by omega)) ?_
      refine tw_ior C dX11_isPacket_37 (v := nI (tp.getD 4 0 * 256 + tp.getD 5 0)) (or_nb hb5) ?_
      refine tw_aload_n C dX11_isPacket_38 0 rfl ?_
      refine tw_getI (v := nI tp.length) (k := 4) C dX11_isPacket_39 fc_X11 sh_114 (hM 114 (by decide) (by decide)) rfl (by decide) wd_189 hI4 ?_
      refine tw_bipush C dX11_isPacket_42 (v := nI 40) (by decide) ?_
      refine tw_isub C dX11_isPacket_44 (v := nI (tp.length - 40)) (pk_sub (by omega)) ?_
      refine tn_icmp_ne C dX11_isPacket_45 (tgt := 62) (by decide) (by omega) (by omega) (fun c3 => ?_) (fun c3 => ?_)
      · skip
        refine tw_iconst C dX11_isPacket_62 (v := nI 0) (by decide) ?_
        exact tw_ireturn C Q dX11_isPacket_63 rfl rfl rfl ⟨by rw [show isPkB tp = false from Bool.eq_false_iff.mpr (fun h => by rw [isPkB_iff] at h; obtain ⟨h1, h2, h3, h4⟩ := h; rw [hn2] at h4; omega)]; rfl, rfl⟩
      · skip
        refine tw_aload_n C dX11_isPacket_48 0 rfl ?_
        refine tw_getI (v := nI tp.length) (k := 4) C dX11_isPacket_49 fc_X11 sh_114 (hM 114 (by decide) (by decide)) rfl (by decide) wd_189 hI4 ?_
        refine tw_sipush C dX11_isPacket_52 (v := nI 600) (by decide) ?_
        refine tn_icmp_gt C dX11_isPacket_55 (tgt := 62) (by decide) (by omega) (by omega) (fun c4 => ?_) (fun c4 => ?_)
        · skip
          refine tw_iconst C dX11_isPacket_62 (v := nI 0) (by decide) ?_
          exact tw_ireturn C Q dX11_isPacket_63 rfl rfl rfl ⟨by rw [show isPkB tp = false from Bool.eq_false_iff.mpr (fun h => by rw [isPkB_iff] at h; obtain ⟨h1, h2, h3, h4⟩ := h; rw [hn2] at h4; omega)]; rfl, rfl⟩
        · skip
          refine tw_iconst C dX11_isPacket_58 (v := nI 1) (by decide) ?_
          refine tw_goto C dX11_isPacket_59 (tgt := 63) (by decide) ?_
          exact tw_ireturn C Q dX11_isPacket_63 rfl rfl rfl ⟨bI_nt (by rw [isPkB_iff]; exact ⟨by omega, by omega, by omega, by rw [hn2]; omega⟩), rfl⟩
theorem c_X11_isZero {G : tw_G} (hM : tw_mG G) {S : tw_S} {tp : List Nat} (hT : LA (tw_A S 118) tp) (htb : ∀ x ∈ tp, x < 256) (htl : tp.length ≤ 640) {a e : Nat} (hae : a ≤ e) (he : e ≤ tp.length) : tw_M G yX11_isZero cX11_isZero 5 (some .boolean) 0 0 [.ref (tw_ad G 114), .int (nI a), .int (nI e)] S ri_I (fun v S' => v = bI (zB tp a (e - a)) ∧ S = S') := by
  refine tw_M.of (L := [(0, .ref (tw_ad G 114)), (1, .int (nI a)), (2, .int (nI e))]) (by decide) (Nat.le_of_ble_eq_true rfl) rfl (fun X C N Q => ?_)
  have C : tw_C G X cX11_isZero RX11 := C
  have loop : ∀ (d : Nat) (j : Nat) (_ : a + j + d = e), TW G X S [(4, .int (nI (a + j))), (3, .int (bI (zB tp a j))), (0, .ref (tw_ad G 114)), (1, .int (nI a)), (2, .int (nI e))] 5 [] := by
    intro d
    induction d with
    | zero =>
      intro j hj
      refine tw_iload C dX11_isZero_5 0 rfl ?_
      refine tw_iload_n C dX11_isZero_7 4 rfl ?_
      refine tn_icmp_ge C dX11_isZero_8 (tgt := 37) (by decide) (by omega) (by omega) (fun c1 => ?_) (fun c1 => ?_)
      · skip
        refine tw_iload_n C dX11_isZero_37 1 rfl ?_
        exact tw_ireturn C Q dX11_isZero_38 rfl (bI_nar _) rfl ⟨by rw [show j = e - a by omega], rfl⟩
      · exact absurd c1 (by omega)
    | succ d ih =>
      intro j hj
      refine tw_iload C dX11_isZero_5 0 rfl ?_
      refine tw_iload_n C dX11_isZero_7 4 rfl ?_
      refine tn_icmp_ge C dX11_isZero_8 (tgt := 37) (by decide) (by omega) (by omega) (fun c1 => ?_) (fun c1 => ?_)
      · exact absurd c1 (by omega)
      refine tw_iload_n C dX11_isZero_11 1 rfl ?_
      refine tb_if_eq C dX11_isZero_12 (tgt := 29) (by decide) (fun cz => ?_) (fun cz => ?_)
      · skip
        refine tw_iconst C dX11_isZero_29 (v := nI 0) (by decide) ?_
        refine tw_istore_n (L' := [(3, .int (nI 0)), (4, .int (nI (a + j))), (0, .ref (tw_ad G 114)), (1, .int (nI a)), (2, .int (nI e))]) C N dX11_isZero_30 rfl (by decide) rfl ?_
        refine tw_iinc (k := 1) (v := nI (a + j + 1)) (L' := [(4, .int (nI (a + j + 1))), (3, .int (nI 0)), (0, .ref (tw_ad G 114)), (1, .int (nI a)), (2, .int (nI e))]) C N dX11_isZero_31 rfl (tn_inc1 _) (by decide) rfl ?_
        refine tw_goto C dX11_isZero_34 (tgt := 5) (by decide) ?_
        have e1 : bI (zB tp a (j + 1)) = nI 0 := by rw [zB]; first | (rw [cz]; rfl) | (rw [hz0, Bool.and_false]; rfl)
        refine TW.c (L' := [(4, .int (nI (a + (j + 1)))), (3, .int (bI (zB tp a (j + 1)))), (0, .ref (tw_ad G 114)), (1, .int (nI a)), (2, .int (nI e))]) (by rw [e1, ← Nat.add_assoc]; simp) ?_
        exact ih (j + 1) (by omega)
      · skip
        refine tw_aload_n C dX11_isZero_15 2 rfl ?_
        refine tw_getR (q := 118) (k := 3) C dX11_isZero_16 fc_X11 sh_114 (hM 114 (by decide) (by decide)) rfl (by decide) wd_114 ?_
        refine tw_iload C dX11_isZero_19 0 rfl ?_
        refine tw_iald (v := nI (tp.getD (a + j) 0)) C dX11_isZero_21 sn_118 sa_118 (hM 118 (by decide) (by decide)) (by omega) (by decide) (hT (a + j) (by omega)) ?_
        refine tn_if_ne C dX11_isZero_22 (tgt := 29) (by decide) (Nat.lt_trans (gD_lt htb _) (by decide)) (fun cq => ?_) (fun cq => ?_)
        · have hz0 : decide (tp.getD (a + j) 0 = 0) = false := decide_eq_false cq
          refine tw_iconst C dX11_isZero_29 (v := nI 0) (by decide) ?_
          refine tw_istore_n (L' := [(3, .int (nI 0)), (4, .int (nI (a + j))), (0, .ref (tw_ad G 114)), (1, .int (nI a)), (2, .int (nI e))]) C N dX11_isZero_30 rfl (by decide) rfl ?_
          refine tw_iinc (k := 1) (v := nI (a + j + 1)) (L' := [(4, .int (nI (a + j + 1))), (3, .int (nI 0)), (0, .ref (tw_ad G 114)), (1, .int (nI a)), (2, .int (nI e))]) C N dX11_isZero_31 rfl (tn_inc1 _) (by decide) rfl ?_
          refine tw_goto C dX11_isZero_34 (tgt := 5) (by decide) ?_
          have e1 : bI (zB tp a (j + 1)) = nI 0 := by rw [zB]; first | (rw [cz]; rfl) | (rw [hz0, Bool.and_false]; rfl)
          refine TW.c (L' := [(4, .int (nI (a + (j + 1)))), (3, .int (bI (zB tp a (j + 1)))), (0, .ref (tw_ad G 114)), (1, .int (nI a)), (2, .int (nI e))]) (by rw [e1, ← Nat.add_assoc]; simp) ?_
          exact ih (j + 1) (by omega)
        · have hz0 : decide (tp.getD (a + j) 0 = 0) = true := decide_eq_true (by omega)
          refine tw_iconst C dX11_isZero_25 (v := nI 1) (by decide) ?_
          refine tw_goto C dX11_isZero_26 (tgt := 30) (by decide) ?_
          refine tw_istore_n (L' := [(3, .int (nI 1)), (4, .int (nI (a + j))), (0, .ref (tw_ad G 114)), (1, .int (nI a)), (2, .int (nI e))]) C N dX11_isZero_30 rfl (by decide) rfl ?_
          refine tw_iinc (k := 1) (v := nI (a + j + 1)) (L' := [(4, .int (nI (a + j + 1))), (3, .int (nI 1)), (0, .ref (tw_ad G 114)), (1, .int (nI a)), (2, .int (nI e))]) C N dX11_isZero_31 rfl (tn_inc1 _) (by decide) rfl ?_
          refine tw_goto C dX11_isZero_34 (tgt := 5) (by decide) ?_
          have e1 : bI (zB tp a (j + 1)) = nI 1 := by rw [zB, cz, hz0]; rfl
          refine TW.c (L' := [(4, .int (nI (a + (j + 1)))), (3, .int (bI (zB tp a (j + 1)))), (0, .ref (tw_ad G 114)), (1, .int (nI a)), (2, .int (nI e))]) (by rw [e1, ← Nat.add_assoc]; simp) ?_
          exact ih (j + 1) (by omega)
  refine tw_iconst C dX11_isZero_0 (v := nI 1) (by decide) ?_
  refine tw_istore_n (L' := [(3, .int (nI 1)), (0, .ref (tw_ad G 114)), (1, .int (nI a)), (2, .int (nI e))]) C N dX11_isZero_1 rfl (by decide) rfl ?_
  refine tw_iload_n C dX11_isZero_2 2 rfl ?_
  refine tw_istore (L' := [(4, .int (nI a)), (3, .int (nI 1)), (0, .ref (tw_ad G 114)), (1, .int (nI a)), (2, .int (nI e))]) C N dX11_isZero_3 (i := 4) (by decide) rfl ?_
  refine TW.c (L' := [(4, .int (nI (a + 0))), (3, .int (bI (zB tp a 0))), (0, .ref (tw_ad G 114)), (1, .int (nI a)), (2, .int (nI e))]) (by simp [zB, bI]; rfl) ?_
  exact loop (e - a) 0 (by omega)
theorem plain_iff {xs : List Nat} (hb : ∀ x ∈ xs, x < 256) (a : Nat) : nb xs a 8 = 18338657682652659712 ↔ (xs.getD a 0 = 254 ∧ xs.getD (a + 1) 0 = 128) ∧ nb xs (a + 2) 6 = 0 := by
  have h1 : nb xs a 8 = nb xs a 2 * 256 ^ 6 + nb xs (a + 2) 6 := nb_ad xs a 2 6
  have h2 : nb xs a 2 = xs.getD a 0 * 256 + xs.getD (a + 1) 0 := by show (0 * 256 + xs.getD a 0) * 256 + xs.getD (a + 1) 0 = _; omega
  have h3 := nb_lt hb (a + 2) 6
  have h4 := gD_lt hb a
  have h5 := gD_lt hb (a + 1)
  simp only [Nat.reducePow] at h1 h3
  omega
theorem c_X11_isPlain {G : tw_G} (hM : tw_mG G) {S : tw_S} {tp : List Nat} (hT : LA (tw_A S 118) tp) (htb : ∀ x ∈ tp, x < 256) (htl : tp.length ≤ 640) {a : Nat} (ha : a + 8 ≤ tp.length) : tw_M G yX11_isPlain cX11_isPlain 4 (some .boolean) 0 0 [.ref (tw_ad G 114), .int (nI a)] S ri_I (fun v S' => v = bI (decide (nb tp a 8 = 18338657682652659712)) ∧ S = S') := by
  refine tw_M.of (L := [(0, .ref (tw_ad G 114)), (1, .int (nI a))]) (by decide) (Nat.le_of_ble_eq_true rfl) rfl (fun X C N Q => ?_)
  have C : tw_C G X cX11_isPlain RX11 := C
  have loop : ∀ (d : Nat) (j : Nat) (_ : j + d = 6), TW G X S [(3, .int (nI (2 + j))), (2, .int (bI ((decide (tp.getD a 0 = 254 ∧ tp.getD (a + 1) 0 = 128) && zB tp (a + 2) j)))), (0, .ref (tw_ad G 114)), (1, .int (nI a))] 34 [] := by
    intro d
    induction d with
    | zero =>
      intro j hj
      refine tw_iload_n C dX11_isPlain_34 0 rfl ?_
      refine tw_bipush C dX11_isPlain_35 (v := nI 8) (by decide) ?_
      refine tn_icmp_ge C dX11_isPlain_37 (tgt := 67) (by decide) (by omega) (by omega) (fun c1 => ?_) (fun c1 => ?_)
      · skip
        refine tw_iload_n C dX11_isPlain_67 1 rfl ?_
        exact tw_ireturn C Q dX11_isPlain_68 rfl (bI_nar _) rfl ⟨by rw [show j = 6 by omega, zB_nb, ← Bool.decide_and]; exact congrArg bI (decide_eq_decide.mpr (plain_iff htb a).symm), rfl⟩
      · exact absurd c1 (by omega)
    | succ d ih =>
      intro j hj
      refine tw_iload_n C dX11_isPlain_34 0 rfl ?_
      refine tw_bipush C dX11_isPlain_35 (v := nI 8) (by decide) ?_
      refine tn_icmp_ge C dX11_isPlain_37 (tgt := 67) (by decide) (by omega) (by omega) (fun c1 => ?_) (fun c1 => ?_)
      · exact absurd c1 (by omega)
      refine tw_iload_n C dX11_isPlain_40 1 rfl ?_
      refine tb_if_eq C dX11_isPlain_41 (tgt := 59) (by decide) (fun cz => ?_) (fun cz => ?_)
      · skip
        refine tw_iconst C dX11_isPlain_59 (v := nI 0) (by decide) ?_
        refine tw_istore_n (L' := [(2, .int (nI 0)), (3, .int (nI (2 + j))), (0, .ref (tw_ad G 114)), (1, .int (nI a))]) C N dX11_isPlain_60 rfl (by decide) rfl ?_
        refine tw_iinc (k := 1) (v := nI (2 + j + 1)) (L' := [(3, .int (nI (2 + j + 1))), (2, .int (nI 0)), (0, .ref (tw_ad G 114)), (1, .int (nI a))]) C N dX11_isPlain_61 rfl (tn_inc1 _) (by decide) rfl ?_
        refine tw_goto C dX11_isPlain_64 (tgt := 34) (by decide) ?_
        have e1 : bI (decide (tp.getD a 0 = 254 ∧ tp.getD (a + 1) 0 = 128) && zB tp (a + 2) (j + 1)) = nI 0 := by rw [zB, ← Bool.and_assoc]; first | (rw [cz]; rfl) | (rw [hz0, Bool.and_false]; rfl)
        refine TW.c (L' := [(3, .int (nI (2 + (j + 1)))), (2, .int (bI ((decide (tp.getD a 0 = 254 ∧ tp.getD (a + 1) 0 = 128) && zB tp (a + 2) (j + 1))))), (0, .ref (tw_ad G 114)), (1, .int (nI a))]) (by rw [e1, ← Nat.add_assoc]; simp) ?_
        exact ih (j + 1) (by omega)
      · skip
        refine tw_aload_n C dX11_isPlain_44 2 rfl ?_
        refine tw_getR (q := 118) (k := 3) C dX11_isPlain_45 fc_X11 sh_114 (hM 114 (by decide) (by decide)) rfl (by decide) wd_114 ?_
        refine tw_iload_n C dX11_isPlain_48 3 rfl ?_
        refine tw_iload_n C dX11_isPlain_49 0 rfl ?_
        refine tw_iadd C dX11_isPlain_50 (v := nI (a + (2 + j))) (nI_add _ _) ?_
        refine tw_iald (v := nI (tp.getD (a + 2 + j) 0)) C dX11_isPlain_51 sn_118 sa_118 (hM 118 (by decide) (by decide)) (by omega) (by decide) (by have h0 := hT (a + (2 + j)) (by omega); rw [← Nat.add_assoc] at h0 ⊢; exact h0) ?_
        refine tn_if_ne C dX11_isPlain_52 (tgt := 59) (by decide) (Nat.lt_trans (gD_lt htb _) (by decide)) (fun cq => ?_) (fun cq => ?_)
        · have hz0 : decide (tp.getD (a + 2 + j) 0 = 0) = false := decide_eq_false cq
          refine tw_iconst C dX11_isPlain_59 (v := nI 0) (by decide) ?_
          refine tw_istore_n (L' := [(2, .int (nI 0)), (3, .int (nI (2 + j))), (0, .ref (tw_ad G 114)), (1, .int (nI a))]) C N dX11_isPlain_60 rfl (by decide) rfl ?_
          refine tw_iinc (k := 1) (v := nI (2 + j + 1)) (L' := [(3, .int (nI (2 + j + 1))), (2, .int (nI 0)), (0, .ref (tw_ad G 114)), (1, .int (nI a))]) C N dX11_isPlain_61 rfl (tn_inc1 _) (by decide) rfl ?_
          refine tw_goto C dX11_isPlain_64 (tgt := 34) (by decide) ?_
          have e1 : bI (decide (tp.getD a 0 = 254 ∧ tp.getD (a + 1) 0 = 128) && zB tp (a + 2) (j + 1)) = nI 0 := by rw [zB, ← Bool.and_assoc]; first | (rw [cz]; rfl) | (rw [hz0, Bool.and_false]; rfl)
          refine TW.c (L' := [(3, .int (nI (2 + (j + 1)))), (2, .int (bI ((decide (tp.getD a 0 = 254 ∧ tp.getD (a + 1) 0 = 128) && zB tp (a + 2) (j + 1))))), (0, .ref (tw_ad G 114)), (1, .int (nI a))]) (by rw [e1, ← Nat.add_assoc]; simp) ?_
          exact ih (j + 1) (by omega)
        · have hz0 : decide (tp.getD (a + 2 + j) 0 = 0) = true := decide_eq_true (by omega)
          refine tw_iconst C dX11_isPlain_55 (v := nI 1) (by decide) ?_
          refine tw_goto C dX11_isPlain_56 (tgt := 60) (by decide) ?_
          refine tw_istore_n (L' := [(2, .int (nI 1)), (3, .int (nI (2 + j))), (0, .ref (tw_ad G 114)), (1, .int (nI a))]) C N dX11_isPlain_60 rfl (by decide) rfl ?_
          refine tw_iinc (k := 1) (v := nI (2 + j + 1)) (L' := [(3, .int (nI (2 + j + 1))), (2, .int (nI 1)), (0, .ref (tw_ad G 114)), (1, .int (nI a))]) C N dX11_isPlain_61 rfl (tn_inc1 _) (by decide) rfl ?_
          refine tw_goto C dX11_isPlain_64 (tgt := 34) (by decide) ?_
          have e1 : bI (decide (tp.getD a 0 = 254 ∧ tp.getD (a + 1) 0 = 128) && zB tp (a + 2) (j + 1)) = nI 1 := by rw [zB, ← Bool.and_assoc, cz, hz0]; rfl
          refine TW.c (L' := [(3, .int (nI (2 + (j + 1)))), (2, .int (bI ((decide (tp.getD a 0 = 254 ∧ tp.getD (a + 1) 0 = 128) && zB tp (a + 2) (j + 1))))), (0, .ref (tw_ad G 114)), (1, .int (nI a))]) (by rw [e1, ← Nat.add_assoc]; simp) ?_
          exact ih (j + 1) (by omega)
  have hg1 := gD_lt htb a
  have hg2 := gD_lt htb (a + 1)
  refine tw_aload_n C dX11_isPlain_0 0 rfl ?_
  refine tw_getR (q := 118) (k := 3) C dX11_isPlain_1 fc_X11 sh_114 (hM 114 (by decide) (by decide)) rfl (by decide) wd_114 ?_
  refine tw_iload_n C dX11_isPlain_4 1 rfl ?_
  refine tw_iald (v := nI (tp.getD a 0)) C dX11_isPlain_5 sn_118 sa_118 (hM 118 (by decide) (by decide)) (by omega) (by decide) (hT a (by omega)) ?_
  refine tw_sipush C dX11_isPlain_6 (v := nI 254) (by decide) ?_
  refine tn_icmp_ne C dX11_isPlain_9 (tgt := 30) (by decide) (by omega) (by omega) (fun c1 => ?_) (fun c1 => ?_)
  · skip
    refine tw_iconst C dX11_isPlain_30 (v := nI 0) (by decide) ?_
    refine tw_istore_n (L' := [(2, .int (nI 0)), (0, .ref (tw_ad G 114)), (1, .int (nI a))]) C N dX11_isPlain_31 rfl (by decide) rfl ?_
    refine tw_iconst C dX11_isPlain_32 (v := nI 2) (by decide) ?_
    refine tw_istore_n (L' := [(3, .int (nI 2)), (2, .int (nI 0)), (0, .ref (tw_ad G 114)), (1, .int (nI a))]) C N dX11_isPlain_33 rfl (by decide) rfl ?_
    have e1 : bI (decide (tp.getD a 0 = 254 ∧ tp.getD (a + 1) 0 = 128) && zB tp (a + 2) 0) = nI 0 := by rw [show decide (tp.getD a 0 = 254 ∧ tp.getD (a + 1) 0 = 128) = false from decide_eq_false (by omega)]; rfl
    refine TW.c (L' := [(3, .int (nI (2 + 0))), (2, .int (bI ((decide (tp.getD a 0 = 254 ∧ tp.getD (a + 1) 0 = 128) && zB tp (a + 2) 0)))), (0, .ref (tw_ad G 114)), (1, .int (nI a))]) (by rw [e1]; simp) ?_
    exact loop 6 0 rfl
  · skip
    refine tw_aload_n C dX11_isPlain_12 0 rfl ?_
    refine tw_getR (q := 118) (k := 3) C dX11_isPlain_13 fc_X11 sh_114 (hM 114 (by decide) (by decide)) rfl (by decide) wd_114 ?_
    refine tw_iload_n C dX11_isPlain_16 1 rfl ?_
    refine tw_iconst C dX11_isPlain_17 (v := nI 1) (by decide) ?_
    refine tw_iadd C dX11_isPlain_18 (v := nI (a + 1)) (nI_add _ _) ?_
    refine tw_iald (v := nI (tp.getD (a + 1) 0)) C dX11_isPlain_19 sn_118 sa_118 (hM 118 (by decide) (by decide)) (by omega) (by decide) (hT (a + 1) (by omega)) ?_
    refine tw_sipush C dX11_isPlain_20 (v := nI 128) (by decide) ?_
    refine tn_icmp_ne C dX11_isPlain_23 (tgt := 30) (by decide) (by omega) (by omega) (fun c2 => ?_) (fun c2 => ?_)
    · skip
      refine tw_iconst C dX11_isPlain_30 (v := nI 0) (by decide) ?_
      refine tw_istore_n (L' := [(2, .int (nI 0)), (0, .ref (tw_ad G 114)), (1, .int (nI a))]) C N dX11_isPlain_31 rfl (by decide) rfl ?_
      refine tw_iconst C dX11_isPlain_32 (v := nI 2) (by decide) ?_
      refine tw_istore_n (L' := [(3, .int (nI 2)), (2, .int (nI 0)), (0, .ref (tw_ad G 114)), (1, .int (nI a))]) C N dX11_isPlain_33 rfl (by decide) rfl ?_
      have e1 : bI (decide (tp.getD a 0 = 254 ∧ tp.getD (a + 1) 0 = 128) && zB tp (a + 2) 0) = nI 0 := by rw [show decide (tp.getD a 0 = 254 ∧ tp.getD (a + 1) 0 = 128) = false from decide_eq_false (by omega)]; rfl
      refine TW.c (L' := [(3, .int (nI (2 + 0))), (2, .int (bI ((decide (tp.getD a 0 = 254 ∧ tp.getD (a + 1) 0 = 128) && zB tp (a + 2) 0)))), (0, .ref (tw_ad G 114)), (1, .int (nI a))]) (by rw [e1]; simp) ?_
      exact loop 6 0 rfl
    · skip
      refine tw_iconst C dX11_isPlain_26 (v := nI 1) (by decide) ?_
      refine tw_goto C dX11_isPlain_27 (tgt := 31) (by decide) ?_
      refine tw_istore_n (L' := [(2, .int (nI 1)), (0, .ref (tw_ad G 114)), (1, .int (nI a))]) C N dX11_isPlain_31 rfl (by decide) rfl ?_
      refine tw_iconst C dX11_isPlain_32 (v := nI 2) (by decide) ?_
      refine tw_istore_n (L' := [(3, .int (nI 2)), (2, .int (nI 1)), (0, .ref (tw_ad G 114)), (1, .int (nI a))]) C N dX11_isPlain_33 rfl (by decide) rfl ?_
      have e1 : bI (decide (tp.getD a 0 = 254 ∧ tp.getD (a + 1) 0 = 128) && zB tp (a + 2) 0) = nI 1 := by rw [show decide (tp.getD a 0 = 254 ∧ tp.getD (a + 1) 0 = 128) = true from decide_eq_true ⟨by omega, by omega⟩]; rfl
      refine TW.c (L' := [(3, .int (nI (2 + 0))), (2, .int (bI ((decide (tp.getD a 0 = 254 ∧ tp.getD (a + 1) 0 = 128) && zB tp (a + 2) 0)))), (0, .ref (tw_ad G 114)), (1, .int (nI a))]) (by rw [e1]; simp) ?_
      exact loop 6 0 rfl
