theorem mm_L_cell : tw_mS yL_cell cL_cell 2 (some .int) 2 := ⟨wd_107, wd_108, wd_109, by decide, by decide, by decide +kernel⟩
theorem mm_L_knows : tw_mS yL_knows cL_knows 4 (some .boolean) 2 := ⟨wd_113, wd_108, wd_114, by decide, by decide, by decide +kernel⟩
theorem mm_L_lays : tw_mS yL_lays cL_lays 13 (some .int) 3 := ⟨wd_142, wd_108, wd_143, by decide, by decide, by decide +kernel⟩
theorem mm_L_first : tw_mS yL_first cL_first 1 (some .long) 1 := ⟨wd_146, wd_108, wd_147, by decide, by decide, by decide +kernel⟩
theorem mm_L_second : tw_mS yL_second cL_second 2 (some .long) 2 := ⟨wd_151, wd_108, wd_152, by decide, by decide, by decide +kernel⟩
theorem lN_ad (a b : Nat) : lN a + lN b = lN (a + b) := by
  apply Int64.toBitVec_inj.mp
  apply BitVec.eq_of_toNat_eq
  simp [lN, Int64.toBitVec_add, BitVec.toNat_add]
theorem nI_self (x : Int32) : x = nI x.toBitVec.toNat := by
  apply Int32.toBitVec_inj.mp
  apply BitVec.eq_of_toNat_eq
  rw [nI_toNat]
  exact (Nat.mod_eq_of_lt x.toBitVec.isLt).symm
theorem tw_ladd {G : tw_G} {X : tw_X} {S : tw_S} {L : List (Nat × Value)} {pc : Nat} {st : List Value} {cc : ByteArray} {own : String} {x y v : Int64} (C : tw_C G X cc own) (hd : decode cc pc = .ok (.ladd, 1)) (hv : x + y = v) (k : TW G X S L (pc + 1) (.long v :: st)) : TW G X S L pc (.long y :: .long x :: st) := fun H locs ls hW hS hl => lv_ladd C.1 C.2.1 hd (by rw [hv]; exact k H locs ls hW hS hl)
/-- a cell of the script, as the law reads it -/
def cN (G : tw_G) (k : Nat) : Nat := if k < tw_sn G then (tw_sx G k).toBitVec.toNat % 2147483648 else (15485957 * k + 107) % 2147483648
theorem cN_lt (G : tw_G) (k : Nat) : cN G k < 2147483648 := by
  unfold cN
  split <;> exact Nat.mod_lt _ (by decide)
theorem cN_1 {G : tw_G} {k : Nat} (h : k < tw_sn G) : tw_sx G k &&& nI 2147483647 = nI (cN G k) := by
  unfold cN
  rw [if_pos h]
  conv => lhs; rw [nI_self (tw_sx G k)]
  exact nI_andm 31 (by decide)
theorem cN_2 {G : tw_G} {k : Nat} (h : ¬ k < tw_sn G) : nI (15485957 * k + 107) &&& nI 2147483647 = nI (cN G k) := by
  unfold cN
  rw [if_neg h]
  exact nI_andm 31 (by decide)
/-- halves of an address, by a cell -/
def fU (x : Nat) : Nat := if x % 6 = 0 then 0 else if x % 6 < 3 then 18338657682652659712 else if x % 6 = 3 then 2306139568115548160 + x / 16 % 4 else if x % 6 = 4 then 18375249429625044992 else x * 4294967296 ^^^ x
def sU (x w : Nat) : Nat := if x % 6 = 0 then 0 else if x % 6 = 1 then 1099478078004 + w else if x % 6 = 2 then 1099478073344 ||| x / 8 % 65536 else if x % 6 = 3 then 144681453828310792 else if x % 6 = 4 then x / 32 % 256 else x * 2147483648 ^^^ x
theorem fU_lt {x : Nat} (h : x < 2147483648) : fU x < 2 ^ 64 := by
  unfold fU
  split
  · decide
  · split
    · decide
    · split
      · omega
      · split
        · decide
        · exact Nat.xor_lt_two_pow (by omega) (by omega)
theorem sU_lt {x w : Nat} (h : x < 2147483648) (hw : w < 2) : sU x w < 2 ^ 64 := by
  unfold sU
  split
  · decide
  · split
    · omega
    · split
      · exact Nat.or_lt_two_pow (by decide) (by omega)
      · split
        · decide
        · split
          · omega
          · exact Nat.xor_lt_two_pow (by omega) (by omega)
theorem c_L_cell {G : tw_G} (hsn : tw_sn G ≤ 260) {S : tw_S} {k : Nat} (hk : k < 1000) : tw_M G yL_cell cL_cell 2 (some .int) 0 0 [.ref (tw_sb G), .int (nI k)] S ri_I (fun v S' => v = nI (cN G k) ∧ S = S') := by
  refine tw_M.of (L := [(0, .ref (tw_sb G)), (1, .int (nI k))]) (by decide) (Nat.le_of_ble_eq_true rfl) rfl (fun X C N Q => ?_)
  have C : tw_C G X cL_cell RL := C
  refine tw_iload_n C dL_cell_0 1 rfl ?_
  refine tw_aload_n C dL_cell_1 0 rfl ?_
  refine tw_slen C dL_cell_2 ?_
  refine tn_icmp_ge C dL_cell_3 (tgt := 12) (by decide) (by omega) (by omega) (fun hc => ?_) (fun hc => ?_)
  · skip
    refine tw_ldc C dL_cell_12 wd_110 (w := nI 15485957) (by decide) ?_
    refine tw_iload_n C dL_cell_14 1 rfl ?_
    refine tw_imul C dL_cell_15 (v := nI (15485957 * k)) (pk_mul _ _) ?_
    refine tw_bipush C dL_cell_16 (v := nI 107) (by decide) ?_
    refine tw_iadd C dL_cell_18 (v := nI ((15485957 * k) + 107)) (nI_add _ _) ?_
    refine tw_ldc C dL_cell_19 wd_111 (w := nI 2147483647) (by decide) ?_
    refine tw_iand C dL_cell_21 (v := nI (cN G k)) (cN_2 (by omega)) ?_
    exact tw_ireturn C Q dL_cell_22 rfl rfl rfl ⟨rfl, rfl⟩
  · skip
    refine tw_aload_n C dL_cell_6 0 rfl ?_
    refine tw_iload_n C dL_cell_7 1 rfl ?_
    refine tw_sald (v := tw_sx G k) C dL_cell_8 (by omega) (by omega) rfl ?_
    refine tw_goto C dL_cell_9 (tgt := 19) (by decide) ?_
    refine tw_ldc C dL_cell_19 wd_111 (w := nI 2147483647) (by decide) ?_
    refine tw_iand C dL_cell_21 (v := nI (cN G k)) (cN_1 (by omega)) ?_
    exact tw_ireturn C Q dL_cell_22 rfl rfl rfl ⟨rfl, rfl⟩
theorem c_L_first {G : tw_G} {S : tw_S} {x : Nat} (hx : x < 2147483648) : tw_M G yL_first cL_first 1 (some .long) 0 0 [.int (nI x)] S ri_J (fun v S' => v = lN (fU x) ∧ S = S') := by
  refine tw_M.of (L := [(0, .int (nI x))]) (by decide) (Nat.le_of_ble_eq_true rfl) rfl (fun X C N Q => ?_)
  have C : tw_C G X cL_first RL := C
  refine tw_iload_n C dL_first_0 0 rfl ?_
  refine tw_bipush C dL_first_1 (v := nI 6) (by decide) ?_
  refine tw_irem C dL_first_3 (by decide) (v := nI (x % 6)) (pk_rem (by omega) (by decide) (by decide)) ?_
  refine tn_if_ne C dL_first_4 (tgt := 11) (by decide) (by omega) (fun c1 => ?_) (fun c1 => ?_)
  · skip
    refine tw_iload_n C dL_first_11 0 rfl ?_
    refine tw_bipush C dL_first_12 (v := nI 6) (by decide) ?_
    refine tw_irem C dL_first_14 (by decide) (v := nI (x % 6)) (pk_rem (by omega) (by decide) (by decide)) ?_
    refine tw_iconst C dL_first_15 (v := nI 3) (by decide) ?_
    refine tn_icmp_ge C dL_first_16 (tgt := 25) (by decide) (by omega) (by omega) (fun c2 => ?_) (fun c2 => ?_)
    · skip
      refine tw_iload_n C dL_first_25 0 rfl ?_
      refine tw_bipush C dL_first_26 (v := nI 6) (by decide) ?_
      refine tw_irem C dL_first_28 (by decide) (v := nI (x % 6)) (pk_rem (by omega) (by decide) (by decide)) ?_
      refine tw_iconst C dL_first_29 (v := nI 3) (by decide) ?_
      refine tn_icmp_ne C dL_first_30 (tgt := 46) (by decide) (by omega) (by omega) (fun c3 => ?_) (fun c3 => ?_)
      · skip
        refine tw_iload_n C dL_first_46 0 rfl ?_
        refine tw_bipush C dL_first_47 (v := nI 6) (by decide) ?_
        refine tw_irem C dL_first_49 (by decide) (v := nI (x % 6)) (pk_rem (by omega) (by decide) (by decide)) ?_
        refine tw_iconst C dL_first_50 (v := nI 4) (by decide) ?_
        refine tn_icmp_ne C dL_first_51 (tgt := 60) (by decide) (by omega) (by omega) (fun c4 => ?_) (fun c4 => ?_)
        · skip
          refine tw_iload_n C dL_first_60 0 rfl ?_
          refine tw_i2l C dL_first_61 (v := lN x) (nI_i64 (by omega)) ?_
          refine tw_bipush C dL_first_62 (v := nI 32) (by decide) ?_
          refine tw_lshl C dL_first_64 (v := lN (x * 4294967296)) (lN_shl _ 32 (by decide)) ?_
          refine tw_iload_n C dL_first_65 0 rfl ?_
          refine tw_i2l C dL_first_66 (v := lN x) (nI_i64 (by omega)) ?_
          refine tw_lxor C dL_first_67 (v := lN ((x * 4294967296) ^^^ x)) (lN_xor _ _) ?_
          exact tw_lreturn C Q dL_first_68 rfl rfl ⟨by simp only [fU]; repeat (first | rw [if_pos (by omega)] | rw [if_neg (by omega)]), rfl⟩
        · skip
          refine tw_ldc2 C dL_first_54 wd_149 (w := lN 18375249429625044992) (by decide) ?_
          refine tw_goto C dL_first_57 (tgt := 68) (by decide) ?_
          exact tw_lreturn C Q dL_first_68 rfl rfl ⟨by simp only [fU]; repeat (first | rw [if_pos (by omega)] | rw [if_neg (by omega)]), rfl⟩
      · skip
        refine tw_ldc2 C dL_first_33 wd_118 (w := lN 2306139568115548160) (by decide) ?_
        refine tw_iload_n C dL_first_36 0 rfl ?_
        refine tw_iconst C dL_first_37 (v := nI 4) (by decide) ?_
        refine tw_ishr C dL_first_38 (v := nI (x / 16)) (nI_shr (by omega) 4 (by decide)) ?_
        refine tw_iconst C dL_first_39 (v := nI 3) (by decide) ?_
        refine tw_iand C dL_first_40 (v := nI ((x / 16) % 4)) (nI_andm 2 (by decide)) ?_
        refine tw_i2l C dL_first_41 (v := lN ((x / 16) % 4)) (nI_i64 (by omega)) ?_
        refine tw_ladd C dL_first_42 (v := lN (2306139568115548160 + ((x / 16) % 4))) (lN_ad _ _) ?_
        refine tw_goto C dL_first_43 (tgt := 68) (by decide) ?_
        exact tw_lreturn C Q dL_first_68 rfl rfl ⟨by simp only [fU]; repeat (first | rw [if_pos (by omega)] | rw [if_neg (by omega)]), rfl⟩
    · skip
      refine tw_ldc2 C dL_first_19 wd_148 (w := lN 18338657682652659712) (by decide) ?_
      refine tw_goto C dL_first_22 (tgt := 68) (by decide) ?_
      exact tw_lreturn C Q dL_first_68 rfl rfl ⟨by simp only [fU]; repeat (first | rw [if_pos (by omega)] | rw [if_neg (by omega)]), rfl⟩
  · skip
    refine tw_lconst C dL_first_7 (v := lN 0) rfl ?_
    refine tw_goto C dL_first_8 (tgt := 68) (by decide) ?_
    exact tw_lreturn C Q dL_first_68 rfl rfl ⟨by simp only [fU]; repeat (first | rw [if_pos (by omega)] | rw [if_neg (by omega)]), rfl⟩
theorem c_L_second {G : tw_G} {S : tw_S} {x w : Nat} (hx : x < 2147483648) (hw : w < 2) : tw_M G yL_second cL_second 2 (some .long) 0 0 [.int (nI x), .int (nI w)] S ri_J (fun v S' => v = lN (sU x w) ∧ S = S') := by
  refine tw_M.of (L := [(0, .int (nI x)), (1, .int (nI w))]) (by decide) (Nat.le_of_ble_eq_true rfl) rfl (fun X C N Q => ?_)
  have C : tw_C G X cL_second RL := C
  refine tw_iload_n C dL_second_0 0 rfl ?_
  refine tw_bipush C dL_second_1 (v := nI 6) (by decide) ?_
  refine tw_irem C dL_second_3 (by decide) (v := nI (x % 6)) (pk_rem (by omega) (by decide) (by decide)) ?_
  refine tn_if_ne C dL_second_4 (tgt := 11) (by decide) (by omega) (fun c1 => ?_) (fun c1 => ?_)
  · skip
    refine tw_iload_n C dL_second_11 0 rfl ?_
    refine tw_bipush C dL_second_12 (v := nI 6) (by decide) ?_
    refine tw_irem C dL_second_14 (by decide) (v := nI (x % 6)) (pk_rem (by omega) (by decide) (by decide)) ?_
    refine tw_iconst C dL_second_15 (v := nI 1) (by decide) ?_
    refine tn_icmp_ne C dL_second_16 (tgt := 28) (by decide) (by omega) (by omega) (fun c2 => ?_) (fun c2 => ?_)
    · skip
      refine tw_iload_n C dL_second_28 0 rfl ?_
      refine tw_bipush C dL_second_29 (v := nI 6) (by decide) ?_
      refine tw_irem C dL_second_31 (by decide) (v := nI (x % 6)) (pk_rem (by omega) (by decide) (by decide)) ?_
      refine tw_iconst C dL_second_32 (v := nI 2) (by decide) ?_
      refine tn_icmp_ne C dL_second_33 (tgt := 50) (by decide) (by omega) (by omega) (fun c3 => ?_) (fun c3 => ?_)
      · skip
        refine tw_iload_n C dL_second_50 0 rfl ?_
        refine tw_bipush C dL_second_51 (v := nI 6) (by decide) ?_
        refine tw_irem C dL_second_53 (by decide) (v := nI (x % 6)) (pk_rem (by omega) (by decide) (by decide)) ?_
        refine tw_iconst C dL_second_54 (v := nI 3) (by decide) ?_
        refine tn_icmp_ne C dL_second_55 (tgt := 64) (by decide) (by omega) (by omega) (fun c4 => ?_) (fun c4 => ?_)
        · skip
          refine tw_iload_n C dL_second_64 0 rfl ?_
          refine tw_bipush C dL_second_65 (v := nI 6) (by decide) ?_
          refine tw_irem C dL_second_67 (by decide) (v := nI (x % 6)) (pk_rem (by omega) (by decide) (by decide)) ?_
          refine tw_iconst C dL_second_68 (v := nI 4) (by decide) ?_
          refine tn_icmp_ne C dL_second_69 (tgt := 83) (by decide) (by omega) (by omega) (fun c5 => ?_) (fun c5 => ?_)
          · skip
            refine tw_iload_n C dL_second_83 0 rfl ?_
            refine tw_i2l C dL_second_84 (v := lN x) (nI_i64 (by omega)) ?_
            refine tw_bipush C dL_second_85 (v := nI 31) (by decide) ?_
            refine tw_lshl C dL_second_87 (v := lN (x * 2147483648)) (lN_shl _ 31 (by decide)) ?_
            refine tw_iload_n C dL_second_88 0 rfl ?_
            refine tw_i2l C dL_second_89 (v := lN x) (nI_i64 (by omega)) ?_
            refine tw_lxor C dL_second_90 (v := lN ((x * 2147483648) ^^^ x)) (lN_xor _ _) ?_
            exact tw_lreturn C Q dL_second_91 rfl rfl ⟨by simp only [sU]; repeat (first | rw [if_pos (by omega)] | rw [if_neg (by omega)]), rfl⟩
          · skip
            refine tw_iload_n C dL_second_72 0 rfl ?_
            refine tw_iconst C dL_second_73 (v := nI 5) (by decide) ?_
            refine tw_ishr C dL_second_74 (v := nI (x / 32)) (nI_shr (by omega) 5 (by decide)) ?_
            refine tw_sipush C dL_second_75 (v := nI 255) (by decide) ?_
            refine tw_iand C dL_second_78 (v := nI ((x / 32) % 256)) (nI_andm 8 (by decide)) ?_
            refine tw_i2l C dL_second_79 (v := lN ((x / 32) % 256)) (nI_i64 (by omega)) ?_
            refine tw_goto C dL_second_80 (tgt := 91) (by decide) ?_
            exact tw_lreturn C Q dL_second_91 rfl rfl ⟨by simp only [sU]; repeat (first | rw [if_pos (by omega)] | rw [if_neg (by omega)]), rfl⟩
        · skip
          refine tw_ldc2 C dL_second_58 wd_156 (w := lN 144681453828310792) (by decide) ?_
          refine tw_goto C dL_second_61 (tgt := 91) (by decide) ?_
          exact tw_lreturn C Q dL_second_91 rfl rfl ⟨by simp only [sU]; repeat (first | rw [if_pos (by omega)] | rw [if_neg (by omega)]), rfl⟩
      · skip
        refine tw_ldc2 C dL_second_36 wd_154 (w := lN 1099478073344) (by decide) ?_
        refine tw_iload_n C dL_second_39 0 rfl ?_
        refine tw_iconst C dL_second_40 (v := nI 3) (by decide) ?_
        refine tw_ishr C dL_second_41 (v := nI (x / 8)) (nI_shr (by omega) 3 (by decide)) ?_
        refine tw_ldc C dL_second_42 wd_155 (w := nI 65535) (by decide) ?_
        refine tw_iand C dL_second_44 (v := nI ((x / 8) % 65536)) (nI_andm 16 (by decide)) ?_
        refine tw_i2l C dL_second_45 (v := lN ((x / 8) % 65536)) (nI_i64 (by omega)) ?_
        refine tw_lor C dL_second_46 (v := lN (1099478073344 ||| ((x / 8) % 65536))) (lN_or _ _) ?_
        refine tw_goto C dL_second_47 (tgt := 91) (by decide) ?_
        exact tw_lreturn C Q dL_second_91 rfl rfl ⟨by simp only [sU]; repeat (first | rw [if_pos (by omega)] | rw [if_neg (by omega)]), rfl⟩
    · skip
      refine tw_ldc2 C dL_second_19 wd_153 (w := lN 1099478078004) (by decide) ?_
      refine tw_iload_n C dL_second_22 1 rfl ?_
      refine tw_i2l C dL_second_23 (v := lN w) (nI_i64 (by omega)) ?_
      refine tw_ladd C dL_second_24 (v := lN (1099478078004 + w)) (lN_ad _ _) ?_
      refine tw_goto C dL_second_25 (tgt := 91) (by decide) ?_
      exact tw_lreturn C Q dL_second_91 rfl rfl ⟨by simp only [sU]; repeat (first | rw [if_pos (by omega)] | rw [if_neg (by omega)]), rfl⟩
  · skip
    refine tw_lconst C dL_second_7 (v := lN 0) rfl ?_
    refine tw_goto C dL_second_8 (tgt := 91) (by decide) ?_
    exact tw_lreturn C Q dL_second_91 rfl rfl ⟨by simp only [sU]; repeat (first | rw [if_pos (by omega)] | rw [if_neg (by omega)]), rfl⟩
