theorem and2 (x : Nat) : x &&& 2 = x / 2 % 2 * 2 := by
  have h1 : x &&& 2 ≤ 2 := Nat.and_le_right
  have h2 := Nat.and_mod_two_pow (a := x) (b := 2) (n := 2)
  rw [Nat.mod_eq_of_lt (by omega)] at h2
  rw [h2, show (2 : Nat) ^ 2 = 4 from rfl]
  rcases (show (x % 4 = 0 ∧ x / 2 % 2 = 0) ∨ (x % 4 = 1 ∧ x / 2 % 2 = 0) ∨ (x % 4 = 2 ∧ x / 2 % 2 = 1) ∨ (x % 4 = 3 ∧ x / 2 % 2 = 1) by omega) with h | h | h | h <;> rw [h.1, h.2] <;> rfl
def lkV (t : Bool) (u : Nat) : Nat := if t then u ^^^ 144115188075855872 else 1099478073344 ||| u % 65536
def kLk (K : kN) (x : Nat) : kN := kLnk (kLnk K 0 (if x % 2 = 0 then lkV true 566265752454920 else lkV false 4660)) 1 (if x / 2 % 2 = 0 then lkV true 566265752454920 else lkV false 4661)
def kLp (K : kN) (x : Nat) : Nat → kN
  | 0 => K
  | k + 1 => if x / 2 ^ (2 + k) % 2 = 0 then kLp K x k else kCtx (kLp K x k) (5 * k) true (2306139568115548160 + k)
theorem kLp_f {K : kN} {x : Nat} (h : ∀ i, kT K i = false) : ∀ k i, 5 * k ≤ i ∨ ¬ i % 5 = 0 → kT (kLp K x k) i = false
  | 0, i, _ => h i
  | k + 1, i, hi => by
    unfold kLp
    split
    · exact kLp_f h k i (by omega)
    · show (if i = 5 * k then true else kT (kLp K x k) i) = false
      rw [if_neg (by omega)]
      exact kLp_f h k i (by omega)
/-- what is known then -/
def kwN (K : kN) (x : Nat) : kN := if x / 128 % 2 = 0 then kLp (kLk K x) x 4 else kCtx (kLp (kLk K x) x 4) 3 true 0
theorem c_L_knows {G : tw_G} (hG : tw_cG G) {S : tw_S} {K : kN} {tp ot : List Nat} {fr : List (List Nat)} {T : Nat → Int32} {c : Nat → cH} {ck wh dr la an : Nat} (hC : CI S K tp ot fr T c ck wh dr la an) (hK : ∀ i, kT K i = false) {x : Nat} (hx : x < 2147483648) : tw_M G yL_knows cL_knows 4 (some .boolean) 2 50 [.ref (tw_ad G 0), .int (nI x)] S ri_I (fun v S' => v = nI 1 ∧ CI S' (kwN K x) tp ot fr T c ck wh dr la an) := by
  refine tw_M.of (L := [(0, .ref (tw_ad G 0)), (1, .int (nI x))]) (by decide) (Nat.le_of_ble_eq_true rfl) rfl (fun X C N Q => ?_)
  have C : tw_C G X cL_knows RL := C
  have hK2 : ∀ i, kT (kLk K x) i = false := hK
  have loop : ∀ (d : Nat) (k : Nat) (S3 : tw_S) (_ : k + d = 4) (_ : CI S3 (kLp (kLk K x) x k) tp ot fr T c ck wh dr la an), TW G X S3 [(3, .int (nI k)), (2, .int (nI 1)), (0, .ref (tw_ad G 0)), (1, .int (nI x))] 78 [] := by
    intro d
    induction d with
    | zero =>
      intro k S3 hk hC3
      refine tw_iload_n C dL_knows_78 0 rfl ?_
      refine tw_iconst C dL_knows_79 (v := nI 4) (by decide) ?_
      refine tn_icmp_ge C dL_knows_80 (tgt := 126) (by decide) (by omega) (by omega) (fun c1 => ?_) (fun c1 => ?_)
      · skip
        have hk4 : k = 4 := by omega
        subst hk4
        show TW G X S3 [(3, .int (nI 4)), (2, .int (nI 1)), (0, .ref (tw_ad G 0)), (1, .int (nI x))] 126 []
        refine tw_iload_n C dL_knows_126 1 rfl ?_
        refine tn_if_eq C dL_knows_127 (tgt := 153) (by decide) (by omega) (fun c2 => ?_) (fun c2 => ?_)
        · exact absurd c2 (by decide)
        refine tw_iload_n C dL_knows_130 3 rfl ?_
        refine tw_bipush C dL_knows_131 (v := nI 7) (by decide) ?_
        refine tw_ishr C dL_knows_133 (v := nI (x / 128)) (nI_shr (by omega) 7 (by decide)) ?_
        refine tw_iconst C dL_knows_134 (v := nI 1) (by decide) ?_
        refine tw_iand C dL_knows_135 (v := nI ((x / 128) % 2)) (nI_andm 1 (by decide)) ?_
        refine tn_if_eq C dL_knows_136 (tgt := 149) (by decide) (by omega) (fun c3 => ?_) (fun c3 => ?_)
        · skip
          refine tw_iconst C dL_knows_149 (v := nI 1) (by decide) ?_
          refine tw_goto C dL_knows_150 (tgt := 154) (by decide) ?_
          exact tw_ireturn C Q dL_knows_154 rfl rfl rfl ⟨rfl, by unfold kwN; rw [if_pos (by omega)]; exact hC3⟩
        · skip
          refine tw_aload_n C dL_knows_139 2 rfl ?_
          refine tw_iconst C dL_knows_140 (v := nI 3) (by decide) ?_
          refine tw_iconst C dL_knows_141 (v := nI 1) (by decide) ?_
          refine tw_lconst C dL_knows_142 (v := lN 0) rfl ?_
          refine tw_callV (As := [.int (nI 3), .int (bI true), .long (lN 0)]) (rest := []) C N (c_X10_context hG (S := S3) hC3 (i := 3) (by decide) (t := true) (u := 0) (by decide)) mm_X10_context wd_129 rfl (hG 0 (by decide)) sh_0 rfl (by decide) rfl (Nat.le_of_ble_eq_true rfl) dL_knows_143 ?_
          rintro v S4 hp
          show TW G X S4 [(3, .int (nI 4)), (2, .int (nI 1)), (0, .ref (tw_ad G 0)), (1, .int (nI x))] 146 [.int v]
          rw [if_pos (by decide), kLp_f hK2 4 3 (by decide)] at hp
          obtain ⟨hv, hC4⟩ := hp
          refine TW.ti (y := bI false) hv ?_
          refine tb_if_ne C dL_knows_146 (tgt := 153) (by decide) (fun c5 => ?_) (fun c5 => ?_)
          · exact absurd c5 (by decide)
          refine tw_iconst C dL_knows_149 (v := nI 1) (by decide) ?_
          refine tw_goto C dL_knows_150 (tgt := 154) (by decide) ?_
          exact tw_ireturn C Q dL_knows_154 rfl rfl rfl ⟨rfl, by unfold kwN; rw [if_neg (by omega)]; exact hC4⟩
      · exact absurd c1 (by omega)
    | succ d ih =>
      intro k S3 hk hC3
      refine tw_iload_n C dL_knows_78 0 rfl ?_
      refine tw_iconst C dL_knows_79 (v := nI 4) (by decide) ?_
      refine tn_icmp_ge C dL_knows_80 (tgt := 126) (by decide) (by omega) (by omega) (fun c1 => ?_) (fun c1 => ?_)
      · exact absurd c1 (by omega)
      refine tw_iload_n C dL_knows_83 1 rfl ?_
      refine tn_if_eq C dL_knows_84 (tgt := 118) (by decide) (by omega) (fun c2 => ?_) (fun c2 => ?_)
      · exact absurd c2 (by decide)
      refine tw_iload_n C dL_knows_87 3 rfl ?_
      refine tw_iconst C dL_knows_88 (v := nI 2) (by decide) ?_
      refine tw_iload_n C dL_knows_89 0 rfl ?_
      refine tw_iadd C dL_knows_90 (v := nI (2 + k)) (nI_add _ _) ?_
      refine tw_ishr C dL_knows_91 (v := nI (x / 2 ^ (2 + k))) (nI_shr (by omega) (2 + k) (by omega)) ?_
      refine tw_iconst C dL_knows_92 (v := nI 1) (by decide) ?_
      refine tw_iand C dL_knows_93 (v := nI ((x / 2 ^ (2 + k)) % 2)) (nI_andm 1 (by decide)) ?_
      refine tn_if_eq C dL_knows_94 (tgt := 114) (by decide) (by omega) (fun c3 => ?_) (fun c3 => ?_)
      · skip
        refine tw_iconst C dL_knows_114 (v := nI 1) (by decide) ?_
        refine tw_goto C dL_knows_115 (tgt := 119) (by decide) ?_
        refine tw_istore_n (L' := [(2, .int (nI 1)), (3, .int (nI k)), (0, .ref (tw_ad G 0)), (1, .int (nI x))]) C N dL_knows_119 rfl (by decide) rfl ?_
        refine tw_iinc (k := 1) (v := nI (k + 1)) (L' := [(3, .int (nI (k + 1))), (2, .int (nI 1)), (0, .ref (tw_ad G 0)), (1, .int (nI x))]) C N dL_knows_120 rfl (tn_inc1 _) (by decide) rfl ?_
        refine tw_goto C dL_knows_123 (tgt := 78) (by decide) ?_
        exact ih (k + 1) S3 (by omega) (by unfold kLp; rw [if_pos (by omega)]; exact hC3)
      · skip
        refine tw_aload_n C dL_knows_97 2 rfl ?_
        refine tw_iconst C dL_knows_98 (v := nI 5) (by decide) ?_
        refine tw_iload_n C dL_knows_99 0 rfl ?_
        refine tw_imul C dL_knows_100 (v := nI (5 * k)) (pk_mul _ _) ?_
        refine tw_iconst C dL_knows_101 (v := nI 1) (by decide) ?_
        refine tw_ldc2 C dL_knows_102 wd_118 (w := lN 2306139568115548160) (by decide) ?_
        refine tw_iload_n C dL_knows_105 0 rfl ?_
        refine tw_i2l C dL_knows_106 (v := lN k) (nI_i64 (by omega)) ?_
        refine tw_ladd C dL_knows_107 (v := lN (2306139568115548160 + k)) (lN_ad _ _) ?_
        refine tw_callV (As := [.int (nI (5 * k)), .int (bI true), .long (lN (2306139568115548160 + k))]) (rest := []) C N (c_X10_context hG (S := S3) hC3 (i := 5 * k) (by omega) (t := true) (u := 2306139568115548160 + k) (by omega)) mm_X10_context wd_129 rfl (hG 0 (by decide)) sh_0 rfl (by decide) rfl (Nat.le_of_ble_eq_true rfl) dL_knows_108 ?_
        rintro v S4 hp
        show TW G X S4 [(3, .int (nI k)), (2, .int (nI 1)), (0, .ref (tw_ad G 0)), (1, .int (nI x))] 111 [.int v]
        rw [if_pos (by omega), kLp_f hK2 k (5 * k) (by omega)] at hp
        obtain ⟨hv, hC4⟩ := hp
        refine TW.ti (y := bI false) hv ?_
        refine tb_if_ne C dL_knows_111 (tgt := 118) (by decide) (fun c5 => ?_) (fun c5 => ?_)
        · exact absurd c5 (by decide)
        refine tw_iconst C dL_knows_114 (v := nI 1) (by decide) ?_
        refine tw_goto C dL_knows_115 (tgt := 119) (by decide) ?_
        refine tw_istore_n (L' := [(2, .int (nI 1)), (3, .int (nI k)), (0, .ref (tw_ad G 0)), (1, .int (nI x))]) C N dL_knows_119 rfl (by decide) rfl ?_
        refine tw_iinc (k := 1) (v := nI (k + 1)) (L' := [(3, .int (nI (k + 1))), (2, .int (nI 1)), (0, .ref (tw_ad G 0)), (1, .int (nI x))]) C N dL_knows_120 rfl (tn_inc1 _) (by decide) rfl ?_
        refine tw_goto C dL_knows_123 (tgt := 78) (by decide) ?_
        exact ih (k + 1) S4 (by omega) (by unfold kLp; rw [if_neg (by omega)]; exact hC4)
  have tail : ∀ S3, CI S3 (kLk K x) tp ot fr T c ck wh dr la an → TW G X S3 [(0, .ref (tw_ad G 0)), (1, .int (nI x))] 75 [.int (nI 1)] := by
    intro S3 hC3
    refine tw_istore_n (L' := [(2, .int (nI 1)), (0, .ref (tw_ad G 0)), (1, .int (nI x))]) C N dL_knows_75 rfl (by decide) rfl ?_
    refine tw_iconst C dL_knows_76 (v := nI 0) (by decide) ?_
    refine tw_istore_n (L' := [(3, .int (nI 0)), (2, .int (nI 1)), (0, .ref (tw_ad G 0)), (1, .int (nI x))]) C N dL_knows_77 rfl (by decide) rfl ?_
    exact loop 4 0 S3 (by omega) hC3
  rcases (show x % 2 = 0 ∨ x % 2 = 1 by omega) with h0 | h0
  · skip
    refine tw_aload_n C dL_knows_0 0 rfl ?_
    refine tw_iconst C dL_knows_1 (v := nI 0) (by decide) ?_
    refine tw_iload_n C dL_knows_2 1 rfl ?_
    refine tw_iconst C dL_knows_3 (v := nI 1) (by decide) ?_
    refine tw_iand C dL_knows_4 (v := nI (x % 2)) (nI_andm 1 (by decide)) ?_
    refine tn_if_ne C dL_knows_5 (tgt := 12) (by decide) (by omega) (fun c1 => ?_) (fun c1 => ?_)
    · exact absurd c1 (by omega)
    refine tw_iconst C dL_knows_8 (v := nI 1) (by decide) ?_
    refine tw_goto C dL_knows_9 (tgt := 13) (by decide) ?_
    refine tw_iload_n C dL_knows_13 1 rfl ?_
    refine tw_iconst C dL_knows_14 (v := nI 1) (by decide) ?_
    refine tw_iand C dL_knows_15 (v := nI (x % 2)) (nI_andm 1 (by decide)) ?_
    refine tn_if_ne C dL_knows_16 (tgt := 25) (by decide) (by omega) (fun c2 => ?_) (fun c2 => ?_)
    · exact absurd c2 (by omega)
    refine tw_ldc2 C dL_knows_19 wd_115 (w := lN 566265752454920) (by decide) ?_
    refine tw_goto C dL_knows_22 (tgt := 28) (by decide) ?_
    refine tw_callV (As := [.int (nI 0), .int (bI true), .long (lN 566265752454920)]) (rest := []) C N (c_X10_link hG (S := S) hC (i := 0) (by decide) (t := true) (u := 566265752454920) (by decide)) mm_X10_link wd_119 rfl (hG 0 (by decide)) sh_0 rfl (by decide) rfl (Nat.le_of_ble_eq_true rfl) dL_knows_28 ?_
    rintro v S1 hp
    show TW G X S1 [(0, .ref (tw_ad G 0)), (1, .int (nI x))] 31 [.int v]
    rw [if_pos (by decide)] at hp
    obtain ⟨hv, hC1⟩ := hp
    refine TW.ti (y := nI 1) (hv.trans rfl) ?_
    refine tw_iconst C dL_knows_31 (v := nI 1) (by decide) ?_
    refine tn_icmp_ne C dL_knows_32 (tgt := 74) (by decide) (by omega) (by omega) (fun c4 => ?_) (fun c4 => ?_)
    · exact absurd c4 (by decide)
    rcases (show x / 2 % 2 = 0 ∨ x / 2 % 2 = 1 by omega) with h35 | h35
    · skip
      refine tw_aload_n C dL_knows_35 0 rfl ?_
      refine tw_iconst C dL_knows_36 (v := nI 1) (by decide) ?_
      refine tw_iload_n C dL_knows_37 1 rfl ?_
      refine tw_iconst C dL_knows_38 (v := nI 2) (by decide) ?_
      refine tw_iand C dL_knows_39 (v := nI (x / 2 % 2 * 2)) (by rw [nI_and, and2]) ?_
      refine tn_if_ne C dL_knows_40 (tgt := 47) (by decide) (by omega) (fun c5 => ?_) (fun c5 => ?_)
      · exact absurd c5 (by omega)
      refine tw_iconst C dL_knows_43 (v := nI 1) (by decide) ?_
      refine tw_goto C dL_knows_44 (tgt := 48) (by decide) ?_
      refine tw_iload_n C dL_knows_48 1 rfl ?_
      refine tw_iconst C dL_knows_49 (v := nI 2) (by decide) ?_
      refine tw_iand C dL_knows_50 (v := nI (x / 2 % 2 * 2)) (by rw [nI_and, and2]) ?_
      refine tn_if_ne C dL_knows_51 (tgt := 60) (by decide) (by omega) (fun c6 => ?_) (fun c6 => ?_)
      · exact absurd c6 (by omega)
      refine tw_ldc2 C dL_knows_54 wd_115 (w := lN 566265752454920) (by decide) ?_
      refine tw_goto C dL_knows_57 (tgt := 63) (by decide) ?_
      refine tw_callV (As := [.int (nI 1), .int (bI true), .long (lN 566265752454920)]) (rest := []) C N (c_X10_link hG (S := S1) hC1 (i := 1) (by decide) (t := true) (u := 566265752454920) (by decide)) mm_X10_link wd_119 rfl (hG 0 (by decide)) sh_0 rfl (by decide) rfl (Nat.le_of_ble_eq_true rfl) dL_knows_63 ?_
      rintro v S2 hp
      show TW G X S2 [(0, .ref (tw_ad G 0)), (1, .int (nI x))] 66 [.int v]
      rw [if_pos (by decide)] at hp
      obtain ⟨hv, hC2⟩ := hp
      refine TW.ti (y := nI 1) (hv.trans rfl) ?_
      refine tw_iconst C dL_knows_66 (v := nI 1) (by decide) ?_
      refine tn_icmp_ne C dL_knows_67 (tgt := 74) (by decide) (by omega) (by omega) (fun c8 => ?_) (fun c8 => ?_)
      · exact absurd c8 (by decide)
      refine tw_iconst C dL_knows_70 (v := nI 1) (by decide) ?_
      refine tw_goto C dL_knows_71 (tgt := 75) (by decide) ?_
      exact tail S2 (by unfold kLk; rw [if_pos h0, if_pos h35]; exact hC2)
    · skip
      refine tw_aload_n C dL_knows_35 0 rfl ?_
      refine tw_iconst C dL_knows_36 (v := nI 1) (by decide) ?_
      refine tw_iload_n C dL_knows_37 1 rfl ?_
      refine tw_iconst C dL_knows_38 (v := nI 2) (by decide) ?_
      refine tw_iand C dL_knows_39 (v := nI (x / 2 % 2 * 2)) (by rw [nI_and, and2]) ?_
      refine tn_if_ne C dL_knows_40 (tgt := 47) (by decide) (by omega) (fun c9 => ?_) (fun c9 => ?_)
      · skip
        refine tw_iconst C dL_knows_47 (v := nI 0) (by decide) ?_
        refine tw_iload_n C dL_knows_48 1 rfl ?_
        refine tw_iconst C dL_knows_49 (v := nI 2) (by decide) ?_
        refine tw_iand C dL_knows_50 (v := nI (x / 2 % 2 * 2)) (by rw [nI_and, and2]) ?_
        refine tn_if_ne C dL_knows_51 (tgt := 60) (by decide) (by omega) (fun c10 => ?_) (fun c10 => ?_)
        · skip
          refine tw_ldc2 C dL_knows_60 wd_117 (w := lN 4661) (by decide) ?_
          refine tw_callV (As := [.int (nI 1), .int (bI false), .long (lN 4661)]) (rest := []) C N (c_X10_link hG (S := S1) hC1 (i := 1) (by decide) (t := false) (u := 4661) (by decide)) mm_X10_link wd_119 rfl (hG 0 (by decide)) sh_0 rfl (by decide) rfl (Nat.le_of_ble_eq_true rfl) dL_knows_63 ?_
          rintro v S2 hp
          show TW G X S2 [(0, .ref (tw_ad G 0)), (1, .int (nI x))] 66 [.int v]
          rw [if_pos (by decide)] at hp
          obtain ⟨hv, hC2⟩ := hp
          refine TW.ti (y := nI 1) (hv.trans rfl) ?_
          refine tw_iconst C dL_knows_66 (v := nI 1) (by decide) ?_
          refine tn_icmp_ne C dL_knows_67 (tgt := 74) (by decide) (by omega) (by omega) (fun c12 => ?_) (fun c12 => ?_)
          · exact absurd c12 (by decide)
          refine tw_iconst C dL_knows_70 (v := nI 1) (by decide) ?_
          refine tw_goto C dL_knows_71 (tgt := 75) (by decide) ?_
          exact tail S2 (by unfold kLk; rw [if_pos h0, if_neg (by omega)]; exact hC2)
        · exact absurd c10 (by omega)
      · exact absurd c9 (by omega)
  · skip
    refine tw_aload_n C dL_knows_0 0 rfl ?_
    refine tw_iconst C dL_knows_1 (v := nI 0) (by decide) ?_
    refine tw_iload_n C dL_knows_2 1 rfl ?_
    refine tw_iconst C dL_knows_3 (v := nI 1) (by decide) ?_
    refine tw_iand C dL_knows_4 (v := nI (x % 2)) (nI_andm 1 (by decide)) ?_
    refine tn_if_ne C dL_knows_5 (tgt := 12) (by decide) (by omega) (fun c13 => ?_) (fun c13 => ?_)
    · skip
      refine tw_iconst C dL_knows_12 (v := nI 0) (by decide) ?_
      refine tw_iload_n C dL_knows_13 1 rfl ?_
      refine tw_iconst C dL_knows_14 (v := nI 1) (by decide) ?_
      refine tw_iand C dL_knows_15 (v := nI (x % 2)) (nI_andm 1 (by decide)) ?_
      refine tn_if_ne C dL_knows_16 (tgt := 25) (by decide) (by omega) (fun c14 => ?_) (fun c14 => ?_)
      · skip
        refine tw_ldc2 C dL_knows_25 wd_116 (w := lN 4660) (by decide) ?_
        refine tw_callV (As := [.int (nI 0), .int (bI false), .long (lN 4660)]) (rest := []) C N (c_X10_link hG (S := S) hC (i := 0) (by decide) (t := false) (u := 4660) (by decide)) mm_X10_link wd_119 rfl (hG 0 (by decide)) sh_0 rfl (by decide) rfl (Nat.le_of_ble_eq_true rfl) dL_knows_28 ?_
        rintro v S1 hp
        show TW G X S1 [(0, .ref (tw_ad G 0)), (1, .int (nI x))] 31 [.int v]
        rw [if_pos (by decide)] at hp
        obtain ⟨hv, hC1⟩ := hp
        refine TW.ti (y := nI 1) (hv.trans rfl) ?_
        refine tw_iconst C dL_knows_31 (v := nI 1) (by decide) ?_
        refine tn_icmp_ne C dL_knows_32 (tgt := 74) (by decide) (by omega) (by omega) (fun c16 => ?_) (fun c16 => ?_)
        · exact absurd c16 (by decide)
        rcases (show x / 2 % 2 = 0 ∨ x / 2 % 2 = 1 by omega) with h35 | h35
        · skip
          refine tw_aload_n C dL_knows_35 0 rfl ?_
          refine tw_iconst C dL_knows_36 (v := nI 1) (by decide) ?_
          refine tw_iload_n C dL_knows_37 1 rfl ?_
          refine tw_iconst C dL_knows_38 (v := nI 2) (by decide) ?_
          refine tw_iand C dL_knows_39 (v := nI (x / 2 % 2 * 2)) (by rw [nI_and, and2]) ?_
          refine tn_if_ne C dL_knows_40 (tgt := 47) (by decide) (by omega) (fun c17 => ?_) (fun c17 => ?_)
          · exact absurd c17 (by omega)
          refine tw_iconst C dL_knows_43 (v := nI 1) (by decide) ?_
          refine tw_goto C dL_knows_44 (tgt := 48) (by decide) ?_
          refine tw_iload_n C dL_knows_48 1 rfl ?_
          refine tw_iconst C dL_knows_49 (v := nI 2) (by decide) ?_
          refine tw_iand C dL_knows_50 (v := nI (x / 2 % 2 * 2)) (by rw [nI_and, and2]) ?_
          refine tn_if_ne C dL_knows_51 (tgt := 60) (by decide) (by omega) (fun c18 => ?_) (fun c18 => ?_)
          · exact absurd c18 (by omega)
          refine tw_ldc2 C dL_knows_54 wd_115 (w := lN 566265752454920) (by decide) ?_
          refine tw_goto C dL_knows_57 (tgt := 63) (by decide) ?_
          refine tw_callV (As := [.int (nI 1), .int (bI true), .long (lN 566265752454920)]) (rest := []) C N (c_X10_link hG (S := S1) hC1 (i := 1) (by decide) (t := true) (u := 566265752454920) (by decide)) mm_X10_link wd_119 rfl (hG 0 (by decide)) sh_0 rfl (by decide) rfl (Nat.le_of_ble_eq_true rfl) dL_knows_63 ?_
          rintro v S2 hp
          show TW G X S2 [(0, .ref (tw_ad G 0)), (1, .int (nI x))] 66 [.int v]
          rw [if_pos (by decide)] at hp
          obtain ⟨hv, hC2⟩ := hp
          refine TW.ti (y := nI 1) (hv.trans rfl) ?_
          refine tw_iconst C dL_knows_66 (v := nI 1) (by decide) ?_
          refine tn_icmp_ne C dL_knows_67 (tgt := 74) (by decide) (by omega) (by omega) (fun c20 => ?_) (fun c20 => ?_)
          · exact absurd c20 (by decide)
          refine tw_iconst C dL_knows_70 (v := nI 1) (by decide) ?_
          refine tw_goto C dL_knows_71 (tgt := 75) (by decide) ?_
          exact tail S2 (by unfold kLk; rw [if_neg (by omega), if_pos h35]; exact hC2)
        · skip
          refine tw_aload_n C dL_knows_35 0 rfl ?_
          refine tw_iconst C dL_knows_36 (v := nI 1) (by decide) ?_
          refine tw_iload_n C dL_knows_37 1 rfl ?_
          refine tw_iconst C dL_knows_38 (v := nI 2) (by decide) ?_
          refine tw_iand C dL_knows_39 (v := nI (x / 2 % 2 * 2)) (by rw [nI_and, and2]) ?_
          refine tn_if_ne C dL_knows_40 (tgt := 47) (by decide) (by omega) (fun c21 => ?_) (fun c21 => ?_)
          · skip
            refine tw_iconst C dL_knows_47 (v := nI 0) (by decide) ?_
            refine tw_iload_n C dL_knows_48 1 rfl ?_
            refine tw_iconst C dL_knows_49 (v := nI 2) (by decide) ?_
            refine tw_iand C dL_knows_50 (v := nI (x / 2 % 2 * 2)) (by rw [nI_and, and2]) ?_
            refine tn_if_ne C dL_knows_51 (tgt := 60) (by decide) (by omega) (fun c22 => ?_) (fun c22 => ?_)
            · skip
              refine tw_ldc2 C dL_knows_60 wd_117 (w := lN 4661) (by decide) ?_
              refine tw_callV (As := [.int (nI 1), .int (bI false), .long (lN 4661)]) (rest := []) C N (c_X10_link hG (S := S1) hC1 (i := 1) (by decide) (t := false) (u := 4661) (by decide)) mm_X10_link wd_119 rfl (hG 0 (by decide)) sh_0 rfl (by decide) rfl (Nat.le_of_ble_eq_true rfl) dL_knows_63 ?_
              rintro v S2 hp
              show TW G X S2 [(0, .ref (tw_ad G 0)), (1, .int (nI x))] 66 [.int v]
              rw [if_pos (by decide)] at hp
              obtain ⟨hv, hC2⟩ := hp
              refine TW.ti (y := nI 1) (hv.trans rfl) ?_
              refine tw_iconst C dL_knows_66 (v := nI 1) (by decide) ?_
              refine tn_icmp_ne C dL_knows_67 (tgt := 74) (by decide) (by omega) (by omega) (fun c24 => ?_) (fun c24 => ?_)
              · exact absurd c24 (by decide)
              refine tw_iconst C dL_knows_70 (v := nI 1) (by decide) ?_
              refine tw_goto C dL_knows_71 (tgt := 75) (by decide) ?_
              exact tail S2 (by unfold kLk; rw [if_neg (by omega), if_neg (by omega)]; exact hC2)
            · exact absurd c22 (by omega)
          · exact absurd c21 (by omega)
      · exact absurd c14 (by omega)
    · exact absurd c13 (by omega)
