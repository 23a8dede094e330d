section LN2
variable {G GM : tw_G} {X : tw_X} {Sc Sm : tw_S} {L L' : List (Nat × Value)} {pc : Nat} {st : List Value} {cc : ByteArray} {own : String}
theorem T2.tl {x y : Int64} (e : x = y) (k : T2 G GM X Sc Sm L pc (.long y :: st)) : T2 G GM X Sc Sm L pc (.long x :: st) := e ▸ k
theorem T2.wf (k : tw_wf G Sc → T2 G GM X Sc Sm L pc st) : T2 G GM X Sc Sm L pc st := fun H locs ls hW hW2 hS hl => k hW.1 H locs ls hW hW2 hS hl
theorem t2n_tabIn {a : Nat} {dflt lo hi : Int} {offs : Array Int} {len : Nat} {off : Int} {tgt : Nat} (C : tw_C G X cc own) (hd : decode cc pc = .ok (.tableswitch dflt lo hi offs, len)) (ha : a < 2 ^ 31) (h1 : ¬ (a : Int) < lo) (h2 : ¬ hi < (a : Int)) (ho : offs[((a : Int) - lo).toNat]? = some off) (ht : (pc : Int) + off = (tgt : Int)) (k : T2 G GM X Sc Sm L tgt st) : T2 G GM X Sc Sm L pc (.int (nI a) :: st) := t2_tabIn C hd (by rw [nI_toInt ha]; exact h1) (by rw [nI_toInt ha]; exact h2) (by rw [nI_toInt ha]; exact ho) ht k
theorem t2n_tabOut {a : Nat} {dflt lo hi : Int} {offs : Array Int} {len : Nat} {tgt : Nat} (C : tw_C G X cc own) (hd : decode cc pc = .ok (.tableswitch dflt lo hi offs, len)) (ha : a < 2 ^ 31) (h : (a : Int) < lo ∨ hi < (a : Int)) (ht : (pc : Int) + dflt = (tgt : Int)) (k : T2 G GM X Sc Sm L tgt st) : T2 G GM X Sc Sm L pc (.int (nI a) :: st) := t2_tabOut C hd (by rw [nI_toInt ha]; exact h) ht k
end LN2
theorem nI_ex (x : Int32) : ∃ a, a < 2 ^ 32 ∧ x = nI a := ⟨x.toUInt32.toNat, x.toUInt32.toNat_lt, by
  apply Int32.toBitVec_inj.mp
  apply BitVec.eq_of_toNat_eq
  rw [nI_toNat]
  show x.toBitVec.toNat = x.toBitVec.toNat % 2 ^ 32
  exact (Nat.mod_eq_of_lt x.toBitVec.isLt).symm⟩
theorem lN_ex (x : Int64) : ∃ a, a < 2 ^ 64 ∧ x = lN a := ⟨x.toUInt64.toNat, x.toUInt64.toNat_lt, by
  apply Int64.toBitVec_inj.mp
  apply BitVec.eq_of_toNat_eq
  rw [lN_toNat]
  show x.toBitVec.toNat = x.toBitVec.toNat % 2 ^ 64
  exact (Nat.mod_eq_of_lt x.toBitVec.isLt).symm⟩
theorem law_gt {N i : Nat} (hN : N ≤ 7168) (hi : i ≤ 10000) : (nI N - nI 14 < nI i) ↔ N < i + 14 := by
  by_cases h : N < 14
  · refine ⟨fun _ => by omega, fun _ => ?_⟩
    have h1 := sub_neg (a := N) (b := 14) (by omega) (by omega) h
    rw [Int32.lt_iff_toInt_lt, Int32.toInt_zero] at h1
    rw [Int32.lt_iff_toInt_lt, nI_toInt (show i < 2 ^ 31 by omega)]
    omega
  · rw [pk_sub (by omega), Int32.lt_iff_toInt_lt, nI_toInt (by omega), nI_toInt (by omega)]
    omega
theorem BS_up {Sc Sm : tw_S} {N N' : Nat} (h : BS Sc Sm N) (g : N ≤ N') : BS Sc Sm N' := by
  obtain ⟨K, tp, ot, fr, T, c, hl, ck, wh, dr, la, an, h1, h2, h3, h4, h5, h6⟩ := h
  exact ⟨K, tp, ot, fr, T, c, hl, ck, wh, dr, la, an, h1, h2, h3, h4, h5, by omega⟩
theorem law_0 {G GM : tw_G} {X : tw_X} {b : Nat} {N : Nat} {xs : Nat → Int32} (hG : tw_cG G) (hM : tw_mG GM) (hdj : ∀ q, q ∈ tw_LA GM → q ∉ tw_LA G) (hll : tw_l GM = tw_l G) (C : tw_C G X cL_law RL) (CM : tw_C GM X cL_law RL) (NN : tw_N X 4 10 386) (hX : va_X b N xs (tx_s X) (tx_s X).heap) (hbl : b < (tx_s X).heap.size) (hbA : ¬ tx_A X b) (hN : N ≤ 7168) {Sc Sm : tw_S} {i : Nat} (hwf : tw_wf G Sc) (hB : BS Sc Sm (72 * i)) (hi14 : i + 14 ≤ N) (kk : ∀ Sc2 Sm2, BS Sc2 Sm2 (72 * i + 1000) → T2 G GM X Sc2 Sm2 [(3, .int (nI i)), (2, .ref (tw_ad GM 114)), (1, .ref (tw_ad G 0)), (0, .ref b)] 942 []) : T2 G GM X Sc Sm [(3, .int (nI i)), (2, .ref (tw_ad GM 114)), (1, .ref (tw_ad G 0)), (0, .ref b)] 120 [] := by
  obtain ⟨K, tp, ot, fr, T, c, hl, ck, wh, dr, la, an, hC, hI, hR, hNB, hF, hck⟩ := hB
  have hW := wf_WFB hG hwf hC hF
  have htb := hW.1.1
  have htl := hW.1.2
  have hol := hW.2.1.2
  have hfb := WFB_f hW
  obtain ⟨a1, ha1, e1⟩ := nI_ex (xs (i + 1))
  obtain ⟨a2, ha2, e2⟩ := nI_ex (xs (i + 2))
  obtain ⟨a3, ha3, e3⟩ := nI_ex (xs (i + 3))
  obtain ⟨a4, ha4, e4⟩ := nI_ex (xs (i + 4))
  refine t2_aload_n C dL_law_120 2 rfl ?_
  refine t2_aload_n C dL_law_121 3 rfl ?_
  refine t2_iload_n C dL_law_122 0 rfl ?_
  refine t2_iconst C dL_law_123 (v := nI 1) (by decide) ?_
  refine t2_iadd C dL_law_124 (v := nI (i + 1)) (nI_add _ _) ?_
  refine t2_sld C hX hbl hbA (vp_inI (by omega)) dL_law_125 ?_
  refine T2.ti (y := nI a1) (by rw [tw_cl (by omega), e1]) ?_
  refine t2_aload_n C dL_law_126 3 rfl ?_
  refine t2_iload_n C dL_law_127 0 rfl ?_
  refine t2_iconst C dL_law_128 (v := nI 2) (by decide) ?_
  refine t2_iadd C dL_law_129 (v := nI (i + 2)) (nI_add _ _) ?_
  refine t2_sld C hX hbl hbA (vp_inI (by omega)) dL_law_130 ?_
  refine T2.ti (y := nI a2) (by rw [tw_cl (by omega), e2]) ?_
  refine t2_if_eq C dL_law_131 (tgt := 138) (by decide) (fun c => ?_) (fun c => ?_)
  · have cb := c
    refine t2_iconst C dL_law_138 (v := nI 0) (by decide) ?_
    refine t2_aload_n C dL_law_139 3 rfl ?_
    refine t2_iload_n C dL_law_140 0 rfl ?_
    refine t2_iconst C dL_law_141 (v := nI 3) (by decide) ?_
    refine t2_iadd C dL_law_142 (v := nI (i + 3)) (nI_add _ _) ?_
    refine t2_sld C hX hbl hbA (vp_inI (by omega)) dL_law_143 ?_
    refine T2.ti (y := nI a3) (by rw [tw_cl (by omega), e3]) ?_
    refine t2_i2l C dL_law_144 (v := (nI a3).toInt64) rfl ?_
    refine t2_bipush C dL_law_145 (v := nI 32) (by decide) ?_
    refine t2_lshl C dL_law_147 (v := (nI a3).toInt64 <<< ((nI 32).toInt64 &&& 63)) rfl ?_
    refine t2_aload_n C dL_law_148 3 rfl ?_
    refine t2_iload_n C dL_law_149 0 rfl ?_
    refine t2_iconst C dL_law_150 (v := nI 4) (by decide) ?_
    refine t2_iadd C dL_law_151 (v := nI (i + 4)) (nI_add _ _) ?_
    refine t2_sld C hX hbl hbA (vp_inI (by omega)) dL_law_152 ?_
    refine T2.ti (y := nI a4) (by rw [tw_cl (by omega), e4]) ?_
    refine t2_i2l C dL_law_153 (v := (nI a4).toInt64) rfl ?_
    refine t2_ldc2 C dL_law_154 wd_7 (w := lN 4294967295) (by decide) ?_
    refine t2_land C dL_law_157 (v := (nI a4).toInt64 &&& lN 4294967295) rfl ?_
    refine t2_lor C dL_law_158 (v := ((nI a3).toInt64 <<< ((nI 32).toInt64 &&& 63)) ||| ((nI a4).toInt64 &&& lN 4294967295)) rfl ?_
    obtain ⟨u3, hu3, eu3⟩ := lN_ex (((nI a3).toInt64 <<< ((nI 32).toInt64 &&& 63)) ||| ((nI a4).toInt64 &&& lN 4294967295))
    refine T2.tl (y := lN u3) eu3 ?_
    refine t2_callC (As := [.int (nI a1), .int (bI false), .long (lN u3)]) (rest := []) hdj hll C NN (c_X10_context hG hC (i := a1) ha1 (t := false) (u := u3) hu3) mm_X10_context wd_138 rfl (hG 0 (by decide)) sh_0 rfl (by decide) rfl (Nat.le_of_ble_eq_true rfl) dL_law_159 ?_
    intro v Sc2 hp
    refine t2_aload_n C dL_law_162 1 rfl ?_
    refine t2_aload_n C dL_law_163 3 rfl ?_
    refine t2_iload_n C dL_law_164 0 rfl ?_
    refine t2_iconst C dL_law_165 (v := nI 1) (by decide) ?_
    refine t2_iadd C dL_law_166 (v := nI (i + 1)) (nI_add _ _) ?_
    refine t2_sld C hX hbl hbA (vp_inI (by omega)) dL_law_167 ?_
    refine T2.ti (y := nI a1) (by rw [tw_cl (by omega), e1]) ?_
    refine t2_aload_n C dL_law_168 3 rfl ?_
    refine t2_iload_n C dL_law_169 0 rfl ?_
    refine t2_iconst C dL_law_170 (v := nI 2) (by decide) ?_
    refine t2_iadd C dL_law_171 (v := nI (i + 2)) (nI_add _ _) ?_
    refine t2_sld C hX hbl hbA (vp_inI (by omega)) dL_law_172 ?_
    refine T2.ti (y := nI a2) (by rw [tw_cl (by omega), e2]) ?_
    refine t2_if_eq C dL_law_173 (tgt := 180) (by decide) (fun c => ?_) (fun c => ?_)
    · skip
      refine t2_iconst C dL_law_180 (v := nI 0) (by decide) ?_
      refine t2_aload_n C dL_law_181 3 rfl ?_
      refine t2_iload_n C dL_law_182 0 rfl ?_
      refine t2_iconst C dL_law_183 (v := nI 3) (by decide) ?_
      refine t2_iadd C dL_law_184 (v := nI (i + 3)) (nI_add _ _) ?_
      refine t2_sld C hX hbl hbA (vp_inI (by omega)) dL_law_185 ?_
      refine T2.ti (y := nI a3) (by rw [tw_cl (by omega), e3]) ?_
      refine t2_i2l C dL_law_186 (v := (nI a3).toInt64) rfl ?_
      refine t2_bipush C dL_law_187 (v := nI 32) (by decide) ?_
      refine t2_lshl C dL_law_189 (v := (nI a3).toInt64 <<< ((nI 32).toInt64 &&& 63)) rfl ?_
      refine t2_aload_n C dL_law_190 3 rfl ?_
      refine t2_iload_n C dL_law_191 0 rfl ?_
      refine t2_iconst C dL_law_192 (v := nI 4) (by decide) ?_
      refine t2_iadd C dL_law_193 (v := nI (i + 4)) (nI_add _ _) ?_
      refine t2_sld C hX hbl hbA (vp_inI (by omega)) dL_law_194 ?_
      refine T2.ti (y := nI a4) (by rw [tw_cl (by omega), e4]) ?_
      refine t2_i2l C dL_law_195 (v := (nI a4).toInt64) rfl ?_
      refine t2_ldc2 C dL_law_196 wd_7 (w := lN 4294967295) (by decide) ?_
      refine t2_land C dL_law_199 (v := (nI a4).toInt64 &&& lN 4294967295) rfl ?_
      refine t2_lor C dL_law_200 (v := ((nI a3).toInt64 <<< ((nI 32).toInt64 &&& 63)) ||| ((nI a4).toInt64 &&& lN 4294967295)) rfl ?_
      refine T2.tl (y := lN u3) eu3 ?_
      refine t2_callM (As := [.int (nI a1), .int (bI false), .long (lN u3)]) (rest := [.int v]) hdj hll CM NN (c_X11_context hM hI (i := a1) ha1 (t := false) (u := u3) hu3) mm_X11_context wd_150 rfl (hM 114 (by decide) (by decide)) sh_114 rfl (by decide) rfl (Nat.le_of_ble_eq_true rfl) dL_law_201 ?_
      intro v2 Sm2 hq
      obtain ⟨hvv, hB2⟩ : v = v2 ∧ BS Sc2 Sm2 (72 * i + 1000) := BS_if hp hq (fun h p q => BS_to hR hNB hF hck p q) (fun _ p q => BS_same hC hI hR hNB hF hck p q)
      refine t2_icmp_eq C dL_law_204 (tgt := 942) (by decide) (fun c => ?_) (fun c => ?_)
      · exact kk Sc2 Sm2 hB2
      · exact absurd hvv c
    · exact absurd cb c
  · have cb := c
    refine t2_iconst C dL_law_134 (v := nI 1) (by decide) ?_
    refine t2_goto C dL_law_135 (tgt := 139) (by decide) ?_
    refine t2_aload_n C dL_law_139 3 rfl ?_
    refine t2_iload_n C dL_law_140 0 rfl ?_
    refine t2_iconst C dL_law_141 (v := nI 3) (by decide) ?_
    refine t2_iadd C dL_law_142 (v := nI (i + 3)) (nI_add _ _) ?_
    refine t2_sld C hX hbl hbA (vp_inI (by omega)) dL_law_143 ?_
    refine T2.ti (y := nI a3) (by rw [tw_cl (by omega), e3]) ?_
    refine t2_i2l C dL_law_144 (v := (nI a3).toInt64) rfl ?_
    refine t2_bipush C dL_law_145 (v := nI 32) (by decide) ?_
    refine t2_lshl C dL_law_147 (v := (nI a3).toInt64 <<< ((nI 32).toInt64 &&& 63)) rfl ?_
    refine t2_aload_n C dL_law_148 3 rfl ?_
    refine t2_iload_n C dL_law_149 0 rfl ?_
    refine t2_iconst C dL_law_150 (v := nI 4) (by decide) ?_
    refine t2_iadd C dL_law_151 (v := nI (i + 4)) (nI_add _ _) ?_
    refine t2_sld C hX hbl hbA (vp_inI (by omega)) dL_law_152 ?_
    refine T2.ti (y := nI a4) (by rw [tw_cl (by omega), e4]) ?_
    refine t2_i2l C dL_law_153 (v := (nI a4).toInt64) rfl ?_
    refine t2_ldc2 C dL_law_154 wd_7 (w := lN 4294967295) (by decide) ?_
    refine t2_land C dL_law_157 (v := (nI a4).toInt64 &&& lN 4294967295) rfl ?_
    refine t2_lor C dL_law_158 (v := ((nI a3).toInt64 <<< ((nI 32).toInt64 &&& 63)) ||| ((nI a4).toInt64 &&& lN 4294967295)) rfl ?_
    obtain ⟨u3, hu3, eu3⟩ := lN_ex (((nI a3).toInt64 <<< ((nI 32).toInt64 &&& 63)) ||| ((nI a4).toInt64 &&& lN 4294967295))
    refine T2.tl (y := lN u3) eu3 ?_
    refine t2_callC (As := [.int (nI a1), .int (bI true), .long (lN u3)]) (rest := []) hdj hll C NN (c_X10_context hG hC (i := a1) ha1 (t := true) (u := u3) hu3) mm_X10_context wd_138 rfl (hG 0 (by decide)) sh_0 rfl (by decide) rfl (Nat.le_of_ble_eq_true rfl) dL_law_159 ?_
    intro v Sc2 hp
    refine t2_aload_n C dL_law_162 1 rfl ?_
    refine t2_aload_n C dL_law_163 3 rfl ?_
    refine t2_iload_n C dL_law_164 0 rfl ?_
    refine t2_iconst C dL_law_165 (v := nI 1) (by decide) ?_
    refine t2_iadd C dL_law_166 (v := nI (i + 1)) (nI_add _ _) ?_
    refine t2_sld C hX hbl hbA (vp_inI (by omega)) dL_law_167 ?_
    refine T2.ti (y := nI a1) (by rw [tw_cl (by omega), e1]) ?_
    refine t2_aload_n C dL_law_168 3 rfl ?_
    refine t2_iload_n C dL_law_169 0 rfl ?_
    refine t2_iconst C dL_law_170 (v := nI 2) (by decide) ?_
    refine t2_iadd C dL_law_171 (v := nI (i + 2)) (nI_add _ _) ?_
    refine t2_sld C hX hbl hbA (vp_inI (by omega)) dL_law_172 ?_
    refine T2.ti (y := nI a2) (by rw [tw_cl (by omega), e2]) ?_
    refine t2_if_eq C dL_law_173 (tgt := 180) (by decide) (fun c => ?_) (fun c => ?_)
    · exact absurd c cb
    refine t2_iconst C dL_law_176 (v := nI 1) (by decide) ?_
    refine t2_goto C dL_law_177 (tgt := 181) (by decide) ?_
    refine t2_aload_n C dL_law_181 3 rfl ?_
    refine t2_iload_n C dL_law_182 0 rfl ?_
    refine t2_iconst C dL_law_183 (v := nI 3) (by decide) ?_
    refine t2_iadd C dL_law_184 (v := nI (i + 3)) (nI_add _ _) ?_
    refine t2_sld C hX hbl hbA (vp_inI (by omega)) dL_law_185 ?_
    refine T2.ti (y := nI a3) (by rw [tw_cl (by omega), e3]) ?_
    refine t2_i2l C dL_law_186 (v := (nI a3).toInt64) rfl ?_
    refine t2_bipush C dL_law_187 (v := nI 32) (by decide) ?_
    refine t2_lshl C dL_law_189 (v := (nI a3).toInt64 <<< ((nI 32).toInt64 &&& 63)) rfl ?_
    refine t2_aload_n C dL_law_190 3 rfl ?_
    refine t2_iload_n C dL_law_191 0 rfl ?_
    refine t2_iconst C dL_law_192 (v := nI 4) (by decide) ?_
    refine t2_iadd C dL_law_193 (v := nI (i + 4)) (nI_add _ _) ?_
    refine t2_sld C hX hbl hbA (vp_inI (by omega)) dL_law_194 ?_
    refine T2.ti (y := nI a4) (by rw [tw_cl (by omega), e4]) ?_
    refine t2_i2l C dL_law_195 (v := (nI a4).toInt64) rfl ?_
    refine t2_ldc2 C dL_law_196 wd_7 (w := lN 4294967295) (by decide) ?_
    refine t2_land C dL_law_199 (v := (nI a4).toInt64 &&& lN 4294967295) rfl ?_
    refine t2_lor C dL_law_200 (v := ((nI a3).toInt64 <<< ((nI 32).toInt64 &&& 63)) ||| ((nI a4).toInt64 &&& lN 4294967295)) rfl ?_
    refine T2.tl (y := lN u3) eu3 ?_
    refine t2_callM (As := [.int (nI a1), .int (bI true), .long (lN u3)]) (rest := [.int v]) hdj hll CM NN (c_X11_context hM hI (i := a1) ha1 (t := true) (u := u3) hu3) mm_X11_context wd_150 rfl (hM 114 (by decide) (by decide)) sh_114 rfl (by decide) rfl (Nat.le_of_ble_eq_true rfl) dL_law_201 ?_
    intro v2 Sm2 hq
    obtain ⟨hvv, hB2⟩ : v = v2 ∧ BS Sc2 Sm2 (72 * i + 1000) := BS_if hp hq (fun h p q => BS_to hR hNB hF hck p q) (fun _ p q => BS_same hC hI hR hNB hF hck p q)
    refine t2_icmp_eq C dL_law_204 (tgt := 942) (by decide) (fun c => ?_) (fun c => ?_)
    · exact kk Sc2 Sm2 hB2
    · exact absurd hvv c
theorem law_1 {G GM : tw_G} {X : tw_X} {b : Nat} {N : Nat} {xs : Nat → Int32} (hG : tw_cG G) (hM : tw_mG GM) (hdj : ∀ q, q ∈ tw_LA GM → q ∉ tw_LA G) (hll : tw_l GM = tw_l G) (C : tw_C G X cL_law RL) (CM : tw_C GM X cL_law RL) (NN : tw_N X 4 10 386) (hX : va_X b N xs (tx_s X) (tx_s X).heap) (hbl : b < (tx_s X).heap.size) (hbA : ¬ tx_A X b) (hN : N ≤ 7168) {Sc Sm : tw_S} {i : Nat} (hwf : tw_wf G Sc) (hB : BS Sc Sm (72 * i)) (hi14 : i + 14 ≤ N) (kk : ∀ Sc2 Sm2, BS Sc2 Sm2 (72 * i + 1000) → T2 G GM X Sc2 Sm2 [(3, .int (nI i)), (2, .ref (tw_ad GM 114)), (1, .ref (tw_ad G 0)), (0, .ref b)] 942 []) : T2 G GM X Sc Sm [(3, .int (nI i)), (2, .ref (tw_ad GM 114)), (1, .ref (tw_ad G 0)), (0, .ref b)] 209 [] := by
  obtain ⟨K, tp, ot, fr, T, c, hl, ck, wh, dr, la, an, hC, hI, hR, hNB, hF, hck⟩ := hB
  have hW := wf_WFB hG hwf hC hF
  have htb := hW.1.1
  have htl := hW.1.2
  have hol := hW.2.1.2
  have hfb := WFB_f hW
  obtain ⟨a1, ha1, e1⟩ := nI_ex (xs (i + 1))
  obtain ⟨a2, ha2, e2⟩ := nI_ex (xs (i + 2))
  obtain ⟨a3, ha3, e3⟩ := nI_ex (xs (i + 3))
  obtain ⟨a4, ha4, e4⟩ := nI_ex (xs (i + 4))
  refine t2_aload_n C dL_law_209 2 rfl ?_
  refine t2_aload_n C dL_law_210 3 rfl ?_
  refine t2_iload_n C dL_law_211 0 rfl ?_
  refine t2_iconst C dL_law_212 (v := nI 1) (by decide) ?_
  refine t2_iadd C dL_law_213 (v := nI (i + 1)) (nI_add _ _) ?_
  refine t2_sld C hX hbl hbA (vp_inI (by omega)) dL_law_214 ?_
  refine T2.ti (y := nI a1) (by rw [tw_cl (by omega), e1]) ?_
  refine t2_aload_n C dL_law_215 3 rfl ?_
  refine t2_iload_n C dL_law_216 0 rfl ?_
  refine t2_iconst C dL_law_217 (v := nI 2) (by decide) ?_
  refine t2_iadd C dL_law_218 (v := nI (i + 2)) (nI_add _ _) ?_
  refine t2_sld C hX hbl hbA (vp_inI (by omega)) dL_law_219 ?_
  refine T2.ti (y := nI a2) (by rw [tw_cl (by omega), e2]) ?_
  refine t2_if_eq C dL_law_220 (tgt := 227) (by decide) (fun c => ?_) (fun c => ?_)
  · have cb := c
    refine t2_iconst C dL_law_227 (v := nI 0) (by decide) ?_
    refine t2_aload_n C dL_law_228 3 rfl ?_
    refine t2_iload_n C dL_law_229 0 rfl ?_
    refine t2_iconst C dL_law_230 (v := nI 3) (by decide) ?_
    refine t2_iadd C dL_law_231 (v := nI (i + 3)) (nI_add _ _) ?_
    refine t2_sld C hX hbl hbA (vp_inI (by omega)) dL_law_232 ?_
    refine T2.ti (y := nI a3) (by rw [tw_cl (by omega), e3]) ?_
    refine t2_i2l C dL_law_233 (v := (nI a3).toInt64) rfl ?_
    refine t2_bipush C dL_law_234 (v := nI 32) (by decide) ?_
    refine t2_lshl C dL_law_236 (v := (nI a3).toInt64 <<< ((nI 32).toInt64 &&& 63)) rfl ?_
    refine t2_aload_n C dL_law_237 3 rfl ?_
    refine t2_iload_n C dL_law_238 0 rfl ?_
    refine t2_iconst C dL_law_239 (v := nI 4) (by decide) ?_
    refine t2_iadd C dL_law_240 (v := nI (i + 4)) (nI_add _ _) ?_
    refine t2_sld C hX hbl hbA (vp_inI (by omega)) dL_law_241 ?_
    refine T2.ti (y := nI a4) (by rw [tw_cl (by omega), e4]) ?_
    refine t2_i2l C dL_law_242 (v := (nI a4).toInt64) rfl ?_
    refine t2_ldc2 C dL_law_243 wd_7 (w := lN 4294967295) (by decide) ?_
    refine t2_land C dL_law_246 (v := (nI a4).toInt64 &&& lN 4294967295) rfl ?_
    refine t2_lor C dL_law_247 (v := ((nI a3).toInt64 <<< ((nI 32).toInt64 &&& 63)) ||| ((nI a4).toInt64 &&& lN 4294967295)) rfl ?_
    obtain ⟨u3, hu3, eu3⟩ := lN_ex (((nI a3).toInt64 <<< ((nI 32).toInt64 &&& 63)) ||| ((nI a4).toInt64 &&& lN 4294967295))
    refine T2.tl (y := lN u3) eu3 ?_
    refine t2_callC (As := [.int (nI a1), .int (bI false), .long (lN u3)]) (rest := []) hdj hll C NN (c_X10_link hG hC (i := a1) ha1 (t := false) (u := u3) hu3) mm_X10_link wd_154 rfl (hG 0 (by decide)) sh_0 rfl (by decide) rfl (Nat.le_of_ble_eq_true rfl) dL_law_248 ?_
    intro v Sc2 hp
    refine t2_aload_n C dL_law_251 1 rfl ?_
    refine t2_aload_n C dL_law_252 3 rfl ?_
    refine t2_iload_n C dL_law_253 0 rfl ?_
    refine t2_iconst C dL_law_254 (v := nI 1) (by decide) ?_
    refine t2_iadd C dL_law_255 (v := nI (i + 1)) (nI_add _ _) ?_
    refine t2_sld C hX hbl hbA (vp_inI (by omega)) dL_law_256 ?_
    refine T2.ti (y := nI a1) (by rw [tw_cl (by omega), e1]) ?_
    refine t2_aload_n C dL_law_257 3 rfl ?_
    refine t2_iload_n C dL_law_258 0 rfl ?_
    refine t2_iconst C dL_law_259 (v := nI 2) (by decide) ?_
    refine t2_iadd C dL_law_260 (v := nI (i + 2)) (nI_add _ _) ?_
    refine t2_sld C hX hbl hbA (vp_inI (by omega)) dL_law_261 ?_
    refine T2.ti (y := nI a2) (by rw [tw_cl (by omega), e2]) ?_
    refine t2_if_eq C dL_law_262 (tgt := 269) (by decide) (fun c => ?_) (fun c => ?_)
    · skip
      refine t2_iconst C dL_law_269 (v := nI 0) (by decide) ?_
      refine t2_aload_n C dL_law_270 3 rfl ?_
      refine t2_iload_n C dL_law_271 0 rfl ?_
      refine t2_iconst C dL_law_272 (v := nI 3) (by decide) ?_
      refine t2_iadd C dL_law_273 (v := nI (i + 3)) (nI_add _ _) ?_
      refine t2_sld C hX hbl hbA (vp_inI (by omega)) dL_law_274 ?_
      refine T2.ti (y := nI a3) (by rw [tw_cl (by omega), e3]) ?_
      refine t2_i2l C dL_law_275 (v := (nI a3).toInt64) rfl ?_
      refine t2_bipush C dL_law_276 (v := nI 32) (by decide) ?_
      refine t2_lshl C dL_law_278 (v := (nI a3).toInt64 <<< ((nI 32).toInt64 &&& 63)) rfl ?_
      refine t2_aload_n C dL_law_279 3 rfl ?_
      refine t2_iload_n C dL_law_280 0 rfl ?_
      refine t2_iconst C dL_law_281 (v := nI 4) (by decide) ?_
      refine t2_iadd C dL_law_282 (v := nI (i + 4)) (nI_add _ _) ?_
      refine t2_sld C hX hbl hbA (vp_inI (by omega)) dL_law_283 ?_
      refine T2.ti (y := nI a4) (by rw [tw_cl (by omega), e4]) ?_
      refine t2_i2l C dL_law_284 (v := (nI a4).toInt64) rfl ?_
      refine t2_ldc2 C dL_law_285 wd_7 (w := lN 4294967295) (by decide) ?_
      refine t2_land C dL_law_288 (v := (nI a4).toInt64 &&& lN 4294967295) rfl ?_
      refine t2_lor C dL_law_289 (v := ((nI a3).toInt64 <<< ((nI 32).toInt64 &&& 63)) ||| ((nI a4).toInt64 &&& lN 4294967295)) rfl ?_
      refine T2.tl (y := lN u3) eu3 ?_
      refine t2_callM (As := [.int (nI a1), .int (bI false), .long (lN u3)]) (rest := [.int v]) hdj hll CM NN (c_X11_link hM hI (i := a1) ha1 (t := false) (u := u3) hu3) mm_X11_link wd_164 rfl (hM 114 (by decide) (by decide)) sh_114 rfl (by decide) rfl (Nat.le_of_ble_eq_true rfl) dL_law_290 ?_
      intro v2 Sm2 hq
      obtain ⟨hvv, hB2⟩ : v = v2 ∧ BS Sc2 Sm2 (72 * i + 1000) := BS_if hp hq (fun h p q => BS_to hR hNB hF hck p q) (fun _ p q => BS_same hC hI hR hNB hF hck p q)
      refine t2_icmp_eq C dL_law_293 (tgt := 942) (by decide) (fun c => ?_) (fun c => ?_)
      · exact kk Sc2 Sm2 hB2
      · exact absurd hvv c
    · exact absurd cb c
  · have cb := c
    refine t2_iconst C dL_law_223 (v := nI 1) (by decide) ?_
    refine t2_goto C dL_law_224 (tgt := 228) (by decide) ?_
    refine t2_aload_n C dL_law_228 3 rfl ?_
    refine t2_iload_n C dL_law_229 0 rfl ?_
    refine t2_iconst C dL_law_230 (v := nI 3) (by decide) ?_
    refine t2_iadd C dL_law_231 (v := nI (i + 3)) (nI_add _ _) ?_
    refine t2_sld C hX hbl hbA (vp_inI (by omega)) dL_law_232 ?_
    refine T2.ti (y := nI a3) (by rw [tw_cl (by omega), e3]) ?_
    refine t2_i2l C dL_law_233 (v := (nI a3).toInt64) rfl ?_
    refine t2_bipush C dL_law_234 (v := nI 32) (by decide) ?_
    refine t2_lshl C dL_law_236 (v := (nI a3).toInt64 <<< ((nI 32).toInt64 &&& 63)) rfl ?_
    refine t2_aload_n C dL_law_237 3 rfl ?_
    refine t2_iload_n C dL_law_238 0 rfl ?_
    refine t2_iconst C dL_law_239 (v := nI 4) (by decide) ?_
    refine t2_iadd C dL_law_240 (v := nI (i + 4)) (nI_add _ _) ?_
    refine t2_sld C hX hbl hbA (vp_inI (by omega)) dL_law_241 ?_
    refine T2.ti (y := nI a4) (by rw [tw_cl (by omega), e4]) ?_
    refine t2_i2l C dL_law_242 (v := (nI a4).toInt64) rfl ?_
    refine t2_ldc2 C dL_law_243 wd_7 (w := lN 4294967295) (by decide) ?_
    refine t2_land C dL_law_246 (v := (nI a4).toInt64 &&& lN 4294967295) rfl ?_
    refine t2_lor C dL_law_247 (v := ((nI a3).toInt64 <<< ((nI 32).toInt64 &&& 63)) ||| ((nI a4).toInt64 &&& lN 4294967295)) rfl ?_
    obtain ⟨u3, hu3, eu3⟩ := lN_ex (((nI a3).toInt64 <<< ((nI 32).toInt64 &&& 63)) ||| ((nI a4).toInt64 &&& lN 4294967295))
    refine T2.tl (y := lN u3) eu3 ?_
    refine t2_callC (As := [.int (nI a1), .int (bI true), .long (lN u3)]) (rest := []) hdj hll C NN (c_X10_link hG hC (i := a1) ha1 (t := true) (u := u3) hu3) mm_X10_link wd_154 rfl (hG 0 (by decide)) sh_0 rfl (by decide) rfl (Nat.le_of_ble_eq_true rfl) dL_law_248 ?_
    intro v Sc2 hp
    refine t2_aload_n C dL_law_251 1 rfl ?_
    refine t2_aload_n C dL_law_252 3 rfl ?_
    refine t2_iload_n C dL_law_253 0 rfl ?_
    refine t2_iconst C dL_law_254 (v := nI 1) (by decide) ?_
    refine t2_iadd C dL_law_255 (v := nI (i + 1)) (nI_add _ _) ?_
    refine t2_sld C hX hbl hbA (vp_inI (by omega)) dL_law_256 ?_
    refine T2.ti (y := nI a1) (by rw [tw_cl (by omega), e1]) ?_
    refine t2_aload_n C dL_law_257 3 rfl ?_
    refine t2_iload_n C dL_law_258 0 rfl ?_
    refine t2_iconst C dL_law_259 (v := nI 2) (by decide) ?_
    refine t2_iadd C dL_law_260 (v := nI (i + 2)) (nI_add _ _) ?_
    refine t2_sld C hX hbl hbA (vp_inI (by omega)) dL_law_261 ?_
    refine T2.ti (y := nI a2) (by rw [tw_cl (by omega), e2]) ?_
    refine t2_if_eq C dL_law_262 (tgt := 269) (by decide) (fun c => ?_) (fun c => ?_)
    · exact absurd c cb
    refine t2_iconst C dL_law_265 (v := nI 1) (by decide) ?_
    refine t2_goto C dL_law_266 (tgt := 270) (by decide) ?_
    refine t2_aload_n C dL_law_270 3 rfl ?_
    refine t2_iload_n C dL_law_271 0 rfl ?_
    refine t2_iconst C dL_law_272 (v := nI 3) (by decide) ?_
    refine t2_iadd C dL_law_273 (v := nI (i + 3)) (nI_add _ _) ?_
    refine t2_sld C hX hbl hbA (vp_inI (by omega)) dL_law_274 ?_
    refine T2.ti (y := nI a3) (by rw [tw_cl (by omega), e3]) ?_
    refine t2_i2l C dL_law_275 (v := (nI a3).toInt64) rfl ?_
    refine t2_bipush C dL_law_276 (v := nI 32) (by decide) ?_
    refine t2_lshl C dL_law_278 (v := (nI a3).toInt64 <<< ((nI 32).toInt64 &&& 63)) rfl ?_
    refine t2_aload_n C dL_law_279 3 rfl ?_
    refine t2_iload_n C dL_law_280 0 rfl ?_
    refine t2_iconst C dL_law_281 (v := nI 4) (by decide) ?_
    refine t2_iadd C dL_law_282 (v := nI (i + 4)) (nI_add _ _) ?_
    refine t2_sld C hX hbl hbA (vp_inI (by omega)) dL_law_283 ?_
    refine T2.ti (y := nI a4) (by rw [tw_cl (by omega), e4]) ?_
    refine t2_i2l C dL_law_284 (v := (nI a4).toInt64) rfl ?_
    refine t2_ldc2 C dL_law_285 wd_7 (w := lN 4294967295) (by decide) ?_
    refine t2_land C dL_law_288 (v := (nI a4).toInt64 &&& lN 4294967295) rfl ?_
    refine t2_lor C dL_law_289 (v := ((nI a3).toInt64 <<< ((nI 32).toInt64 &&& 63)) ||| ((nI a4).toInt64 &&& lN 4294967295)) rfl ?_
    refine T2.tl (y := lN u3) eu3 ?_
    refine t2_callM (As := [.int (nI a1), .int (bI true), .long (lN u3)]) (rest := [.int v]) hdj hll CM NN (c_X11_link hM hI (i := a1) ha1 (t := true) (u := u3) hu3) mm_X11_link wd_164 rfl (hM 114 (by decide) (by decide)) sh_114 rfl (by decide) rfl (Nat.le_of_ble_eq_true rfl) dL_law_290 ?_
    intro v2 Sm2 hq
    obtain ⟨hvv, hB2⟩ : v = v2 ∧ BS Sc2 Sm2 (72 * i + 1000) := BS_if hp hq (fun h p q => BS_to hR hNB hF hck p q) (fun _ p q => BS_same hC hI hR hNB hF hck p q)
    refine t2_icmp_eq C dL_law_293 (tgt := 942) (by decide) (fun c => ?_) (fun c => ?_)
    · exact kk Sc2 Sm2 hB2
    · exact absurd hvv c
theorem law_2 {G GM : tw_G} {X : tw_X} {b : Nat} {N : Nat} {xs : Nat → Int32} (hG : tw_cG G) (hM : tw_mG GM) (hdj : ∀ q, q ∈ tw_LA GM → q ∉ tw_LA G) (hll : tw_l GM = tw_l G) (C : tw_C G X cL_law RL) (CM : tw_C GM X cL_law RL) (NN : tw_N X 4 10 386) (hX : va_X b N xs (tx_s X) (tx_s X).heap) (hbl : b < (tx_s X).heap.size) (hbA : ¬ tx_A X b) (hN : N ≤ 7168) {Sc Sm : tw_S} {i : Nat} (hwf : tw_wf G Sc) (hB : BS Sc Sm (72 * i)) (hi14 : i + 14 ≤ N) (kk : ∀ Sc2 Sm2, BS Sc2 Sm2 (72 * i + 1000) → T2 G GM X Sc2 Sm2 [(3, .int (nI i)), (2, .ref (tw_ad GM 114)), (1, .ref (tw_ad G 0)), (0, .ref b)] 942 []) : T2 G GM X Sc Sm [(3, .int (nI i)), (2, .ref (tw_ad GM 114)), (1, .ref (tw_ad G 0)), (0, .ref b)] 298 [] := by
  obtain ⟨K, tp, ot, fr, T, c, hl, ck, wh, dr, la, an, hC, hI, hR, hNB, hF, hck⟩ := hB
  have hW := wf_WFB hG hwf hC hF
  have htb := hW.1.1
  have htl := hW.1.2
  have hol := hW.2.1.2
  have hfb := WFB_f hW
  obtain ⟨a1, ha1, e1⟩ := nI_ex (xs (i + 1))
  obtain ⟨a2, ha2, e2⟩ := nI_ex (xs (i + 2))
  obtain ⟨a3, ha3, e3⟩ := nI_ex (xs (i + 3))
  refine t2_aload_n C dL_law_298 2 rfl ?_
  refine t2_aload_n C dL_law_299 3 rfl ?_
  refine t2_iload_n C dL_law_300 0 rfl ?_
  refine t2_iconst C dL_law_301 (v := nI 1) (by decide) ?_
  refine t2_iadd C dL_law_302 (v := nI (i + 1)) (nI_add _ _) ?_
  refine t2_sld C hX hbl hbA (vp_inI (by omega)) dL_law_303 ?_
  refine T2.ti (y := nI a1) (by rw [tw_cl (by omega), e1]) ?_
  refine t2_i2l C dL_law_304 (v := (nI a1).toInt64) rfl ?_
  refine t2_bipush C dL_law_305 (v := nI 32) (by decide) ?_
  refine t2_lshl C dL_law_307 (v := (nI a1).toInt64 <<< ((nI 32).toInt64 &&& 63)) rfl ?_
  refine t2_aload_n C dL_law_308 3 rfl ?_
  refine t2_iload_n C dL_law_309 0 rfl ?_
  refine t2_iconst C dL_law_310 (v := nI 2) (by decide) ?_
  refine t2_iadd C dL_law_311 (v := nI (i + 2)) (nI_add _ _) ?_
  refine t2_sld C hX hbl hbA (vp_inI (by omega)) dL_law_312 ?_
  refine T2.ti (y := nI a2) (by rw [tw_cl (by omega), e2]) ?_
  refine t2_i2l C dL_law_313 (v := (nI a2).toInt64) rfl ?_
  refine t2_ldc2 C dL_law_314 wd_7 (w := lN 4294967295) (by decide) ?_
  refine t2_land C dL_law_317 (v := (nI a2).toInt64 &&& lN 4294967295) rfl ?_
  refine t2_lor C dL_law_318 (v := ((nI a1).toInt64 <<< ((nI 32).toInt64 &&& 63)) ||| ((nI a2).toInt64 &&& lN 4294967295)) rfl ?_
  obtain ⟨u1, hu1, eu1⟩ := lN_ex (((nI a1).toInt64 <<< ((nI 32).toInt64 &&& 63)) ||| ((nI a2).toInt64 &&& lN 4294967295))
  refine T2.tl (y := lN u1) eu1 ?_
  refine t2_aload_n C dL_law_319 3 rfl ?_
  refine t2_iload_n C dL_law_320 0 rfl ?_
  refine t2_iconst C dL_law_321 (v := nI 3) (by decide) ?_
  refine t2_iadd C dL_law_322 (v := nI (i + 3)) (nI_add _ _) ?_
  refine t2_sld C hX hbl hbA (vp_inI (by omega)) dL_law_323 ?_
  refine T2.ti (y := nI a3) (by rw [tw_cl (by omega), e3]) ?_
  refine t2_callC (As := [.long (lN u1), .int (nI a3)]) (rest := []) hdj hll C NN (c_X10_type hG hC (i := a3) ha3 (u := u1) hu1) mm_X10_type wd_165 rfl (hG 0 (by decide)) sh_0 rfl (by decide) rfl (Nat.le_of_ble_eq_true rfl) dL_law_324 ?_
  intro v Sc2 hp
  refine t2_aload_n C dL_law_327 1 rfl ?_
  refine t2_aload_n C dL_law_328 3 rfl ?_
  refine t2_iload_n C dL_law_329 0 rfl ?_
  refine t2_iconst C dL_law_330 (v := nI 1) (by decide) ?_
  refine t2_iadd C dL_law_331 (v := nI (i + 1)) (nI_add _ _) ?_
  refine t2_sld C hX hbl hbA (vp_inI (by omega)) dL_law_332 ?_
  refine T2.ti (y := nI a1) (by rw [tw_cl (by omega), e1]) ?_
  refine t2_i2l C dL_law_333 (v := (nI a1).toInt64) rfl ?_
  refine t2_bipush C dL_law_334 (v := nI 32) (by decide) ?_
  refine t2_lshl C dL_law_336 (v := (nI a1).toInt64 <<< ((nI 32).toInt64 &&& 63)) rfl ?_
  refine t2_aload_n C dL_law_337 3 rfl ?_
  refine t2_iload_n C dL_law_338 0 rfl ?_
  refine t2_iconst C dL_law_339 (v := nI 2) (by decide) ?_
  refine t2_iadd C dL_law_340 (v := nI (i + 2)) (nI_add _ _) ?_
  refine t2_sld C hX hbl hbA (vp_inI (by omega)) dL_law_341 ?_
  refine T2.ti (y := nI a2) (by rw [tw_cl (by omega), e2]) ?_
  refine t2_i2l C dL_law_342 (v := (nI a2).toInt64) rfl ?_
  refine t2_ldc2 C dL_law_343 wd_7 (w := lN 4294967295) (by decide) ?_
  refine t2_land C dL_law_346 (v := (nI a2).toInt64 &&& lN 4294967295) rfl ?_
  refine t2_lor C dL_law_347 (v := ((nI a1).toInt64 <<< ((nI 32).toInt64 &&& 63)) ||| ((nI a2).toInt64 &&& lN 4294967295)) rfl ?_
  refine T2.tl (y := lN u1) eu1 ?_
  refine t2_aload_n C dL_law_348 3 rfl ?_
  refine t2_iload_n C dL_law_349 0 rfl ?_
  refine t2_iconst C dL_law_350 (v := nI 3) (by decide) ?_
  refine t2_iadd C dL_law_351 (v := nI (i + 3)) (nI_add _ _) ?_
  refine t2_sld C hX hbl hbA (vp_inI (by omega)) dL_law_352 ?_
  refine T2.ti (y := nI a3) (by rw [tw_cl (by omega), e3]) ?_
  refine t2_callM (As := [.long (lN u1), .int (nI a3)]) (rest := [.int v]) hdj hll CM NN (c_X11_type hM hI (i := a3) ha3 (u := u1) htl) mm_X11_type wd_185 rfl (hM 114 (by decide) (by decide)) sh_114 rfl (by decide) rfl (Nat.le_of_ble_eq_true rfl) dL_law_353 ?_
  intro v2 Sm2 hq
  obtain ⟨hvv, hB2⟩ : v = v2 ∧ BS Sc2 Sm2 (72 * i + 1000) := BS_if hp hq (fun h p q => BS_if p q (fun h p q => BS_to hR hNB hF hck p q) (fun _ p q => BS_same hC hI hR hNB hF hck p q)) (fun _ p q => BS_same hC hI hR hNB hF hck p q)
  refine t2_icmp_eq C dL_law_356 (tgt := 942) (by decide) (fun c => ?_) (fun c => ?_)
  · exact kk Sc2 Sm2 hB2
  · exact absurd hvv c
set_option maxRecDepth 20000 in
theorem law_3 {G GM : tw_G} {X : tw_X} {b : Nat} {N : Nat} {xs : Nat → Int32} (hG : tw_cG G) (hM : tw_mG GM) (hdj : ∀ q, q ∈ tw_LA GM → q ∉ tw_LA G) (hll : tw_l GM = tw_l G) (C : tw_C G X cL_law RL) (CM : tw_C GM X cL_law RL) (NN : tw_N X 4 10 386) (hX : va_X b N xs (tx_s X) (tx_s X).heap) (hbl : b < (tx_s X).heap.size) (hbA : ¬ tx_A X b) (hN : N ≤ 7168) {Sc Sm : tw_S} {i : Nat} (hwf : tw_wf G Sc) (hB : BS Sc Sm (72 * i)) (hi14 : i + 14 ≤ N) (kk : ∀ Sc2 Sm2, BS Sc2 Sm2 (72 * i + 1000) → T2 G GM X Sc2 Sm2 [(3, .int (nI i)), (2, .ref (tw_ad GM 114)), (1, .ref (tw_ad G 0)), (0, .ref b)] 942 []) : T2 G GM X Sc Sm [(3, .int (nI i)), (2, .ref (tw_ad GM 114)), (1, .ref (tw_ad G 0)), (0, .ref b)] 361 [] := by
  obtain ⟨K, tp, ot, fr, T, c, hl, ck, wh, dr, la, an, hC, hI, hR, hNB, hF, hck⟩ := hB
  have hW := wf_WFB hG hwf hC hF
  have htb := hW.1.1
  have htl := hW.1.2
  have hol := hW.2.1.2
  have hfb := WFB_f hW
  obtain ⟨a1, ha1, e1⟩ := nI_ex (xs (i + 1))
  obtain ⟨a2, ha2, e2⟩ := nI_ex (xs (i + 2))
  obtain ⟨a3, ha3, e3⟩ := nI_ex (xs (i + 3))
  obtain ⟨a4, ha4, e4⟩ := nI_ex (xs (i + 4))
  obtain ⟨a5, ha5, e5⟩ := nI_ex (xs (i + 5))
  obtain ⟨a6, ha6, e6⟩ := nI_ex (xs (i + 6))
  obtain ⟨a7, ha7, e7⟩ := nI_ex (xs (i + 7))
  obtain ⟨a8, ha8, e8⟩ := nI_ex (xs (i + 8))
  obtain ⟨a9, ha9, e9⟩ := nI_ex (xs (i + 9))
  obtain ⟨a10, ha10, e10⟩ := nI_ex (xs (i + 10))
  obtain ⟨a11, ha11, e11⟩ := nI_ex (xs (i + 11))
  obtain ⟨a12, ha12, e12⟩ := nI_ex (xs (i + 12))
  obtain ⟨a13, ha13, e13⟩ := nI_ex (xs (i + 13))
  refine t2_aload_n C dL_law_361 2 rfl ?_
  refine t2_aload_n C dL_law_362 3 rfl ?_
  refine t2_iload_n C dL_law_363 0 rfl ?_
  refine t2_iconst C dL_law_364 (v := nI 1) (by decide) ?_
  refine t2_iadd C dL_law_365 (v := nI (i + 1)) (nI_add _ _) ?_
  refine t2_sld C hX hbl hbA (vp_inI (by omega)) dL_law_366 ?_
  refine T2.ti (y := nI a1) (by rw [tw_cl (by omega), e1]) ?_
  refine t2_aload_n C dL_law_367 3 rfl ?_
  refine t2_iload_n C dL_law_368 0 rfl ?_
  refine t2_iconst C dL_law_369 (v := nI 2) (by decide) ?_
  refine t2_iadd C dL_law_370 (v := nI (i + 2)) (nI_add _ _) ?_
  refine t2_sld C hX hbl hbA (vp_inI (by omega)) dL_law_371 ?_
  refine T2.ti (y := nI a2) (by rw [tw_cl (by omega), e2]) ?_
  refine t2_aload_n C dL_law_372 3 rfl ?_
  refine t2_iload_n C dL_law_373 0 rfl ?_
  refine t2_iconst C dL_law_374 (v := nI 3) (by decide) ?_
  refine t2_iadd C dL_law_375 (v := nI (i + 3)) (nI_add _ _) ?_
  refine t2_sld C hX hbl hbA (vp_inI (by omega)) dL_law_376 ?_
  refine T2.ti (y := nI a3) (by rw [tw_cl (by omega), e3]) ?_
  refine t2_aload_n C dL_law_377 3 rfl ?_
  refine t2_iload_n C dL_law_378 0 rfl ?_
  refine t2_iconst C dL_law_379 (v := nI 4) (by decide) ?_
  refine t2_iadd C dL_law_380 (v := nI (i + 4)) (nI_add _ _) ?_
  refine t2_sld C hX hbl hbA (vp_inI (by omega)) dL_law_381 ?_
  refine T2.ti (y := nI a4) (by rw [tw_cl (by omega), e4]) ?_
  refine t2_aload_n C dL_law_382 3 rfl ?_
  refine t2_iload_n C dL_law_383 0 rfl ?_
  refine t2_iconst C dL_law_384 (v := nI 5) (by decide) ?_
  refine t2_iadd C dL_law_385 (v := nI (i + 5)) (nI_add _ _) ?_
  refine t2_sld C hX hbl hbA (vp_inI (by omega)) dL_law_386 ?_
  refine T2.ti (y := nI a5) (by rw [tw_cl (by omega), e5]) ?_
  refine t2_aload_n C dL_law_387 3 rfl ?_
  refine t2_iload_n C dL_law_388 0 rfl ?_
  refine t2_bipush C dL_law_389 (v := nI 6) (by decide) ?_
  refine t2_iadd C dL_law_391 (v := nI (i + 6)) (nI_add _ _) ?_
  refine t2_sld C hX hbl hbA (vp_inI (by omega)) dL_law_392 ?_
  refine T2.ti (y := nI a6) (by rw [tw_cl (by omega), e6]) ?_
  refine t2_i2l C dL_law_393 (v := (nI a6).toInt64) rfl ?_
  refine t2_bipush C dL_law_394 (v := nI 32) (by decide) ?_
  refine t2_lshl C dL_law_396 (v := (nI a6).toInt64 <<< ((nI 32).toInt64 &&& 63)) rfl ?_
  refine t2_aload_n C dL_law_397 3 rfl ?_
  refine t2_iload_n C dL_law_398 0 rfl ?_
  refine t2_bipush C dL_law_399 (v := nI 7) (by decide) ?_
  refine t2_iadd C dL_law_401 (v := nI (i + 7)) (nI_add _ _) ?_
  refine t2_sld C hX hbl hbA (vp_inI (by omega)) dL_law_402 ?_
  refine T2.ti (y := nI a7) (by rw [tw_cl (by omega), e7]) ?_
  refine t2_i2l C dL_law_403 (v := (nI a7).toInt64) rfl ?_
  refine t2_ldc2 C dL_law_404 wd_7 (w := lN 4294967295) (by decide) ?_
  refine t2_land C dL_law_407 (v := (nI a7).toInt64 &&& lN 4294967295) rfl ?_
  refine t2_lor C dL_law_408 (v := ((nI a6).toInt64 <<< ((nI 32).toInt64 &&& 63)) ||| ((nI a7).toInt64 &&& lN 4294967295)) rfl ?_
  obtain ⟨u6, hu6, eu6⟩ := lN_ex (((nI a6).toInt64 <<< ((nI 32).toInt64 &&& 63)) ||| ((nI a7).toInt64 &&& lN 4294967295))
  refine T2.tl (y := lN u6) eu6 ?_
  refine t2_aload_n C dL_law_409 3 rfl ?_
  refine t2_iload_n C dL_law_410 0 rfl ?_
  refine t2_bipush C dL_law_411 (v := nI 8) (by decide) ?_
  refine t2_iadd C dL_law_413 (v := nI (i + 8)) (nI_add _ _) ?_
  refine t2_sld C hX hbl hbA (vp_inI (by omega)) dL_law_414 ?_
  refine T2.ti (y := nI a8) (by rw [tw_cl (by omega), e8]) ?_
  refine t2_i2l C dL_law_415 (v := (nI a8).toInt64) rfl ?_
  refine t2_bipush C dL_law_416 (v := nI 32) (by decide) ?_
  refine t2_lshl C dL_law_418 (v := (nI a8).toInt64 <<< ((nI 32).toInt64 &&& 63)) rfl ?_
  refine t2_aload_n C dL_law_419 3 rfl ?_
  refine t2_iload_n C dL_law_420 0 rfl ?_
  refine t2_bipush C dL_law_421 (v := nI 9) (by decide) ?_
  refine t2_iadd C dL_law_423 (v := nI (i + 9)) (nI_add _ _) ?_
  refine t2_sld C hX hbl hbA (vp_inI (by omega)) dL_law_424 ?_
  refine T2.ti (y := nI a9) (by rw [tw_cl (by omega), e9]) ?_
  refine t2_i2l C dL_law_425 (v := (nI a9).toInt64) rfl ?_
  refine t2_ldc2 C dL_law_426 wd_7 (w := lN 4294967295) (by decide) ?_
  refine t2_land C dL_law_429 (v := (nI a9).toInt64 &&& lN 4294967295) rfl ?_
  refine t2_lor C dL_law_430 (v := ((nI a8).toInt64 <<< ((nI 32).toInt64 &&& 63)) ||| ((nI a9).toInt64 &&& lN 4294967295)) rfl ?_
  obtain ⟨u8, hu8, eu8⟩ := lN_ex (((nI a8).toInt64 <<< ((nI 32).toInt64 &&& 63)) ||| ((nI a9).toInt64 &&& lN 4294967295))
  refine T2.tl (y := lN u8) eu8 ?_
  refine t2_aload_n C dL_law_431 3 rfl ?_
  refine t2_iload_n C dL_law_432 0 rfl ?_
  refine t2_bipush C dL_law_433 (v := nI 10) (by decide) ?_
  refine t2_iadd C dL_law_435 (v := nI (i + 10)) (nI_add _ _) ?_
  refine t2_sld C hX hbl hbA (vp_inI (by omega)) dL_law_436 ?_
  refine T2.ti (y := nI a10) (by rw [tw_cl (by omega), e10]) ?_
  refine t2_i2l C dL_law_437 (v := (nI a10).toInt64) rfl ?_
  refine t2_bipush C dL_law_438 (v := nI 32) (by decide) ?_
  refine t2_lshl C dL_law_440 (v := (nI a10).toInt64 <<< ((nI 32).toInt64 &&& 63)) rfl ?_
  refine t2_aload_n C dL_law_441 3 rfl ?_
  refine t2_iload_n C dL_law_442 0 rfl ?_
  refine t2_bipush C dL_law_443 (v := nI 11) (by decide) ?_
  refine t2_iadd C dL_law_445 (v := nI (i + 11)) (nI_add _ _) ?_
  refine t2_sld C hX hbl hbA (vp_inI (by omega)) dL_law_446 ?_
  refine T2.ti (y := nI a11) (by rw [tw_cl (by omega), e11]) ?_
  refine t2_i2l C dL_law_447 (v := (nI a11).toInt64) rfl ?_
  refine t2_ldc2 C dL_law_448 wd_7 (w := lN 4294967295) (by decide) ?_
  refine t2_land C dL_law_451 (v := (nI a11).toInt64 &&& lN 4294967295) rfl ?_
  refine t2_lor C dL_law_452 (v := ((nI a10).toInt64 <<< ((nI 32).toInt64 &&& 63)) ||| ((nI a11).toInt64 &&& lN 4294967295)) rfl ?_
  obtain ⟨u10, hu10, eu10⟩ := lN_ex (((nI a10).toInt64 <<< ((nI 32).toInt64 &&& 63)) ||| ((nI a11).toInt64 &&& lN 4294967295))
  refine T2.tl (y := lN u10) eu10 ?_
  refine t2_aload_n C dL_law_453 3 rfl ?_
  refine t2_iload_n C dL_law_454 0 rfl ?_
  refine t2_bipush C dL_law_455 (v := nI 12) (by decide) ?_
  refine t2_iadd C dL_law_457 (v := nI (i + 12)) (nI_add _ _) ?_
  refine t2_sld C hX hbl hbA (vp_inI (by omega)) dL_law_458 ?_
  refine T2.ti (y := nI a12) (by rw [tw_cl (by omega), e12]) ?_
  refine t2_i2l C dL_law_459 (v := (nI a12).toInt64) rfl ?_
  refine t2_bipush C dL_law_460 (v := nI 32) (by decide) ?_
  refine t2_lshl C dL_law_462 (v := (nI a12).toInt64 <<< ((nI 32).toInt64 &&& 63)) rfl ?_
  refine t2_aload_n C dL_law_463 3 rfl ?_
  refine t2_iload_n C dL_law_464 0 rfl ?_
  refine t2_bipush C dL_law_465 (v := nI 13) (by decide) ?_
  refine t2_iadd C dL_law_467 (v := nI (i + 13)) (nI_add _ _) ?_
  refine t2_sld C hX hbl hbA (vp_inI (by omega)) dL_law_468 ?_
  refine T2.ti (y := nI a13) (by rw [tw_cl (by omega), e13]) ?_
  refine t2_i2l C dL_law_469 (v := (nI a13).toInt64) rfl ?_
  refine t2_ldc2 C dL_law_470 wd_7 (w := lN 4294967295) (by decide) ?_
  refine t2_land C dL_law_473 (v := (nI a13).toInt64 &&& lN 4294967295) rfl ?_
  refine t2_lor C dL_law_474 (v := ((nI a12).toInt64 <<< ((nI 32).toInt64 &&& 63)) ||| ((nI a13).toInt64 &&& lN 4294967295)) rfl ?_
  obtain ⟨u12, hu12, eu12⟩ := lN_ex (((nI a12).toInt64 <<< ((nI 32).toInt64 &&& 63)) ||| ((nI a13).toInt64 &&& lN 4294967295))
  refine T2.tl (y := lN u12) eu12 ?_
  refine t2_callC (As := [.int (nI a1), .int (nI a2), .int (nI a3), .int (nI a4), .int (nI a5), .long (lN u6), .long (lN u8), .long (lN u10), .long (lN u12)]) (rest := []) hdj hll C NN (c_X10_head hG hC (t := a1) (l := a2) (m := a3) (kd := a4) (hp := a5) ha1 ha2 ha3 ha4 ha5 (a1 := u6) (a2 := u8) (a3 := u10) (a4 := u12) hu6 hu8 hu10 hu12) mm_X10_head wd_194 rfl (hG 0 (by decide)) sh_0 rfl (by decide) rfl (Nat.le_of_ble_eq_true rfl) dL_law_475 ?_
  intro v Sc2 hp
  refine t2_aload_n C dL_law_478 1 rfl ?_
  refine t2_aload_n C dL_law_479 3 rfl ?_
  refine t2_iload_n C dL_law_480 0 rfl ?_
  refine t2_iconst C dL_law_481 (v := nI 1) (by decide) ?_
  refine t2_iadd C dL_law_482 (v := nI (i + 1)) (nI_add _ _) ?_
  refine t2_sld C hX hbl hbA (vp_inI (by omega)) dL_law_483 ?_
  refine T2.ti (y := nI a1) (by rw [tw_cl (by omega), e1]) ?_
  refine t2_aload_n C dL_law_484 3 rfl ?_
  refine t2_iload_n C dL_law_485 0 rfl ?_
  refine t2_iconst C dL_law_486 (v := nI 2) (by decide) ?_
  refine t2_iadd C dL_law_487 (v := nI (i + 2)) (nI_add _ _) ?_
  refine t2_sld C hX hbl hbA (vp_inI (by omega)) dL_law_488 ?_
  refine T2.ti (y := nI a2) (by rw [tw_cl (by omega), e2]) ?_
  refine t2_aload_n C dL_law_489 3 rfl ?_
  refine t2_iload_n C dL_law_490 0 rfl ?_
  refine t2_iconst C dL_law_491 (v := nI 3) (by decide) ?_
  refine t2_iadd C dL_law_492 (v := nI (i + 3)) (nI_add _ _) ?_
  refine t2_sld C hX hbl hbA (vp_inI (by omega)) dL_law_493 ?_
  refine T2.ti (y := nI a3) (by rw [tw_cl (by omega), e3]) ?_
  refine t2_aload_n C dL_law_494 3 rfl ?_
  refine t2_iload_n C dL_law_495 0 rfl ?_
  refine t2_iconst C dL_law_496 (v := nI 4) (by decide) ?_
  refine t2_iadd C dL_law_497 (v := nI (i + 4)) (nI_add _ _) ?_
  refine t2_sld C hX hbl hbA (vp_inI (by omega)) dL_law_498 ?_
  refine T2.ti (y := nI a4) (by rw [tw_cl (by omega), e4]) ?_
  refine t2_aload_n C dL_law_499 3 rfl ?_
  refine t2_iload_n C dL_law_500 0 rfl ?_
  refine t2_iconst C dL_law_501 (v := nI 5) (by decide) ?_
  refine t2_iadd C dL_law_502 (v := nI (i + 5)) (nI_add _ _) ?_
  refine t2_sld C hX hbl hbA (vp_inI (by omega)) dL_law_503 ?_
  refine T2.ti (y := nI a5) (by rw [tw_cl (by omega), e5]) ?_
  refine t2_aload_n C dL_law_504 3 rfl ?_
  refine t2_iload_n C dL_law_505 0 rfl ?_
  refine t2_bipush C dL_law_506 (v := nI 6) (by decide) ?_
  refine t2_iadd C dL_law_508 (v := nI (i + 6)) (nI_add _ _) ?_
  refine t2_sld C hX hbl hbA (vp_inI (by omega)) dL_law_509 ?_
  refine T2.ti (y := nI a6) (by rw [tw_cl (by omega), e6]) ?_
  refine t2_i2l C dL_law_510 (v := (nI a6).toInt64) rfl ?_
  refine t2_bipush C dL_law_511 (v := nI 32) (by decide) ?_
  refine t2_lshl C dL_law_513 (v := (nI a6).toInt64 <<< ((nI 32).toInt64 &&& 63)) rfl ?_
  refine t2_aload_n C dL_law_514 3 rfl ?_
  refine t2_iload_n C dL_law_515 0 rfl ?_
  refine t2_bipush C dL_law_516 (v := nI 7) (by decide) ?_
  refine t2_iadd C dL_law_518 (v := nI (i + 7)) (nI_add _ _) ?_
  refine t2_sld C hX hbl hbA (vp_inI (by omega)) dL_law_519 ?_
  refine T2.ti (y := nI a7) (by rw [tw_cl (by omega), e7]) ?_
  refine t2_i2l C dL_law_520 (v := (nI a7).toInt64) rfl ?_
  refine t2_ldc2 C dL_law_521 wd_7 (w := lN 4294967295) (by decide) ?_
  refine t2_land C dL_law_524 (v := (nI a7).toInt64 &&& lN 4294967295) rfl ?_
  refine t2_lor C dL_law_525 (v := ((nI a6).toInt64 <<< ((nI 32).toInt64 &&& 63)) ||| ((nI a7).toInt64 &&& lN 4294967295)) rfl ?_
  refine T2.tl (y := lN u6) eu6 ?_
  refine t2_aload_n C dL_law_526 3 rfl ?_
  refine t2_iload_n C dL_law_527 0 rfl ?_
  refine t2_bipush C dL_law_528 (v := nI 8) (by decide) ?_
  refine t2_iadd C dL_law_530 (v := nI (i + 8)) (nI_add _ _) ?_
  refine t2_sld C hX hbl hbA (vp_inI (by omega)) dL_law_531 ?_
  refine T2.ti (y := nI a8) (by rw [tw_cl (by omega), e8]) ?_
  refine t2_i2l C dL_law_532 (v := (nI a8).toInt64) rfl ?_
  refine t2_bipush C dL_law_533 (v := nI 32) (by decide) ?_
  refine t2_lshl C dL_law_535 (v := (nI a8).toInt64 <<< ((nI 32).toInt64 &&& 63)) rfl ?_
  refine t2_aload_n C dL_law_536 3 rfl ?_
  refine t2_iload_n C dL_law_537 0 rfl ?_
  refine t2_bipush C dL_law_538 (v := nI 9) (by decide) ?_
  refine t2_iadd C dL_law_540 (v := nI (i + 9)) (nI_add _ _) ?_
  refine t2_sld C hX hbl hbA (vp_inI (by omega)) dL_law_541 ?_
  refine T2.ti (y := nI a9) (by rw [tw_cl (by omega), e9]) ?_
  refine t2_i2l C dL_law_542 (v := (nI a9).toInt64) rfl ?_
  refine t2_ldc2 C dL_law_543 wd_7 (w := lN 4294967295) (by decide) ?_
  refine t2_land C dL_law_546 (v := (nI a9).toInt64 &&& lN 4294967295) rfl ?_
  refine t2_lor C dL_law_547 (v := ((nI a8).toInt64 <<< ((nI 32).toInt64 &&& 63)) ||| ((nI a9).toInt64 &&& lN 4294967295)) rfl ?_
  refine T2.tl (y := lN u8) eu8 ?_
  refine t2_aload_n C dL_law_548 3 rfl ?_
  refine t2_iload_n C dL_law_549 0 rfl ?_
  refine t2_bipush C dL_law_550 (v := nI 10) (by decide) ?_
  refine t2_iadd C dL_law_552 (v := nI (i + 10)) (nI_add _ _) ?_
  refine t2_sld C hX hbl hbA (vp_inI (by omega)) dL_law_553 ?_
  refine T2.ti (y := nI a10) (by rw [tw_cl (by omega), e10]) ?_
  refine t2_i2l C dL_law_554 (v := (nI a10).toInt64) rfl ?_
  refine t2_bipush C dL_law_555 (v := nI 32) (by decide) ?_
  refine t2_lshl C dL_law_557 (v := (nI a10).toInt64 <<< ((nI 32).toInt64 &&& 63)) rfl ?_
  refine t2_aload_n C dL_law_558 3 rfl ?_
  refine t2_iload_n C dL_law_559 0 rfl ?_
  refine t2_bipush C dL_law_560 (v := nI 11) (by decide) ?_
  refine t2_iadd C dL_law_562 (v := nI (i + 11)) (nI_add _ _) ?_
  refine t2_sld C hX hbl hbA (vp_inI (by omega)) dL_law_563 ?_
  refine T2.ti (y := nI a11) (by rw [tw_cl (by omega), e11]) ?_
  refine t2_i2l C dL_law_564 (v := (nI a11).toInt64) rfl ?_
  refine t2_ldc2 C dL_law_565 wd_7 (w := lN 4294967295) (by decide) ?_
  refine t2_land C dL_law_568 (v := (nI a11).toInt64 &&& lN 4294967295) rfl ?_
  refine t2_lor C dL_law_569 (v := ((nI a10).toInt64 <<< ((nI 32).toInt64 &&& 63)) ||| ((nI a11).toInt64 &&& lN 4294967295)) rfl ?_
  refine T2.tl (y := lN u10) eu10 ?_
  refine t2_aload_n C dL_law_570 3 rfl ?_
  refine t2_iload_n C dL_law_571 0 rfl ?_
  refine t2_bipush C dL_law_572 (v := nI 12) (by decide) ?_
  refine t2_iadd C dL_law_574 (v := nI (i + 12)) (nI_add _ _) ?_
  refine t2_sld C hX hbl hbA (vp_inI (by omega)) dL_law_575 ?_
  refine T2.ti (y := nI a12) (by rw [tw_cl (by omega), e12]) ?_
  refine t2_i2l C dL_law_576 (v := (nI a12).toInt64) rfl ?_
  refine t2_bipush C dL_law_577 (v := nI 32) (by decide) ?_
  refine t2_lshl C dL_law_579 (v := (nI a12).toInt64 <<< ((nI 32).toInt64 &&& 63)) rfl ?_
  refine t2_aload_n C dL_law_580 3 rfl ?_
  refine t2_iload_n C dL_law_581 0 rfl ?_
  refine t2_bipush C dL_law_582 (v := nI 13) (by decide) ?_
  refine t2_iadd C dL_law_584 (v := nI (i + 13)) (nI_add _ _) ?_
  refine t2_sld C hX hbl hbA (vp_inI (by omega)) dL_law_585 ?_
  refine T2.ti (y := nI a13) (by rw [tw_cl (by omega), e13]) ?_
  refine t2_i2l C dL_law_586 (v := (nI a13).toInt64) rfl ?_
  refine t2_ldc2 C dL_law_587 wd_7 (w := lN 4294967295) (by decide) ?_
  refine t2_land C dL_law_590 (v := (nI a13).toInt64 &&& lN 4294967295) rfl ?_
  refine t2_lor C dL_law_591 (v := ((nI a12).toInt64 <<< ((nI 32).toInt64 &&& 63)) ||| ((nI a13).toInt64 &&& lN 4294967295)) rfl ?_
  refine T2.tl (y := lN u12) eu12 ?_
  refine t2_callM (As := [.int (nI a1), .int (nI a2), .int (nI a3), .int (nI a4), .int (nI a5), .long (lN u6), .long (lN u8), .long (lN u10), .long (lN u12)]) (rest := [.int v]) hdj hll CM NN (c_X11_head hM hI (t := a1) (l := a2) (m := a3) (kd := a4) (hp := a5) ha1 ha2 ha3 ha4 ha5 (a1 := u6) (a2 := u8) (a3 := u10) (a4 := u12) htl) mm_X11_head wd_208 rfl (hM 114 (by decide) (by decide)) sh_114 rfl (by decide) rfl (Nat.le_of_ble_eq_true rfl) dL_law_592 ?_
  intro v2 Sm2 hq
  obtain ⟨hvv, hB2⟩ : v = v2 ∧ BS Sc2 Sm2 (72 * i + 1000) := BS_if hp hq (fun h p q => BS_if p q (fun h p q => BS_to hR hNB hF hck p q) (fun _ p q => BS_same hC hI hR hNB hF hck p q)) (fun _ p q => BS_same hC hI hR hNB hF hck p q)
  refine t2_icmp_eq C dL_law_595 (tgt := 942) (by decide) (fun c => ?_) (fun c => ?_)
  · exact kk Sc2 Sm2 hB2
  · exact absurd hvv c
theorem law_4 {G GM : tw_G} {X : tw_X} {b : Nat} {N : Nat} {xs : Nat → Int32} (hG : tw_cG G) (hM : tw_mG GM) (hdj : ∀ q, q ∈ tw_LA GM → q ∉ tw_LA G) (hll : tw_l GM = tw_l G) (C : tw_C G X cL_law RL) (CM : tw_C GM X cL_law RL) (NN : tw_N X 4 10 386) (hX : va_X b N xs (tx_s X) (tx_s X).heap) (hbl : b < (tx_s X).heap.size) (hbA : ¬ tx_A X b) (hN : N ≤ 7168) {Sc Sm : tw_S} {i : Nat} (hwf : tw_wf G Sc) (hB : BS Sc Sm (72 * i)) (hi14 : i + 14 ≤ N) (kk : ∀ Sc2 Sm2, BS Sc2 Sm2 (72 * i + 1000) → T2 G GM X Sc2 Sm2 [(3, .int (nI i)), (2, .ref (tw_ad GM 114)), (1, .ref (tw_ad G 0)), (0, .ref b)] 942 []) : T2 G GM X Sc Sm [(3, .int (nI i)), (2, .ref (tw_ad GM 114)), (1, .ref (tw_ad G 0)), (0, .ref b)] 600 [] := by
  obtain ⟨K, tp, ot, fr, T, c, hl, ck, wh, dr, la, an, hC, hI, hR, hNB, hF, hck⟩ := hB
  have hW := wf_WFB hG hwf hC hF
  have htb := hW.1.1
  have htl := hW.1.2
  have hol := hW.2.1.2
  have hfb := WFB_f hW
  obtain ⟨a1, ha1, e1⟩ := nI_ex (xs (i + 1))
  refine t2_aload_n C dL_law_600 2 rfl ?_
  refine t2_aload_n C dL_law_601 3 rfl ?_
  refine t2_iload_n C dL_law_602 0 rfl ?_
  refine t2_iconst C dL_law_603 (v := nI 1) (by decide) ?_
  refine t2_iadd C dL_law_604 (v := nI (i + 1)) (nI_add _ _) ?_
  refine t2_sld C hX hbl hbA (vp_inI (by omega)) dL_law_605 ?_
  refine T2.ti (y := nI a1) (by rw [tw_cl (by omega), e1]) ?_
  refine t2_callC (As := [.int (nI a1)]) (rest := []) hdj hll C NN (c_X10_cut hG hC (i := a1) ha1 htl) mm_X10_cut wd_217 rfl (hG 0 (by decide)) sh_0 rfl (by decide) rfl (Nat.le_of_ble_eq_true rfl) dL_law_606 ?_
  intro v Sc2 hp
  refine t2_aload_n C dL_law_609 1 rfl ?_
  refine t2_aload_n C dL_law_610 3 rfl ?_
  refine t2_iload_n C dL_law_611 0 rfl ?_
  refine t2_iconst C dL_law_612 (v := nI 1) (by decide) ?_
  refine t2_iadd C dL_law_613 (v := nI (i + 1)) (nI_add _ _) ?_
  refine t2_sld C hX hbl hbA (vp_inI (by omega)) dL_law_614 ?_
  refine T2.ti (y := nI a1) (by rw [tw_cl (by omega), e1]) ?_
  refine t2_callM (As := [.int (nI a1)]) (rest := [.int v]) hdj hll CM NN (c_X11_cut hM hI (i := a1) ha1 htl) mm_X11_cut wd_225 rfl (hM 114 (by decide) (by decide)) sh_114 rfl (by decide) rfl (Nat.le_of_ble_eq_true rfl) dL_law_615 ?_
  intro v2 Sm2 hq
  obtain ⟨hvv, hB2⟩ : v = v2 ∧ BS Sc2 Sm2 (72 * i + 1000) := BS_if hp hq (fun h p q => BS_to hR hNB hF hck p q) (fun _ p q => BS_same hC hI hR hNB hF hck p q)
  refine t2_icmp_eq C dL_law_618 (tgt := 942) (by decide) (fun c => ?_) (fun c => ?_)
  · exact kk Sc2 Sm2 hB2
  · exact absurd hvv c
theorem law_5 {G GM : tw_G} {X : tw_X} {b : Nat} {N : Nat} {xs : Nat → Int32} (hG : tw_cG G) (hM : tw_mG GM) (hdj : ∀ q, q ∈ tw_LA GM → q ∉ tw_LA G) (hll : tw_l GM = tw_l G) (C : tw_C G X cL_law RL) (CM : tw_C GM X cL_law RL) (NN : tw_N X 4 10 386) (hX : va_X b N xs (tx_s X) (tx_s X).heap) (hbl : b < (tx_s X).heap.size) (hbA : ¬ tx_A X b) (hN : N ≤ 7168) {Sc Sm : tw_S} {i : Nat} (hwf : tw_wf G Sc) (hB : BS Sc Sm (72 * i)) (hi14 : i + 14 ≤ N) (kk : ∀ Sc2 Sm2, BS Sc2 Sm2 (72 * i + 1000) → T2 G GM X Sc2 Sm2 [(3, .int (nI i)), (2, .ref (tw_ad GM 114)), (1, .ref (tw_ad G 0)), (0, .ref b)] 942 []) : T2 G GM X Sc Sm [(3, .int (nI i)), (2, .ref (tw_ad GM 114)), (1, .ref (tw_ad G 0)), (0, .ref b)] 623 [] := by
  obtain ⟨K, tp, ot, fr, T, c, hl, ck, wh, dr, la, an, hC, hI, hR, hNB, hF, hck⟩ := hB
  have hW := wf_WFB hG hwf hC hF
  have htb := hW.1.1
  have htl := hW.1.2
  have hol := hW.2.1.2
  have hfb := WFB_f hW
  obtain ⟨a1, ha1, e1⟩ := nI_ex (xs (i + 1))
  obtain ⟨a2, ha2, e2⟩ := nI_ex (xs (i + 2))
  refine t2_aload_n C dL_law_623 2 rfl ?_
  refine t2_aload_n C dL_law_624 3 rfl ?_
  refine t2_iload_n C dL_law_625 0 rfl ?_
  refine t2_iconst C dL_law_626 (v := nI 1) (by decide) ?_
  refine t2_iadd C dL_law_627 (v := nI (i + 1)) (nI_add _ _) ?_
  refine t2_sld C hX hbl hbA (vp_inI (by omega)) dL_law_628 ?_
  refine T2.ti (y := nI a1) (by rw [tw_cl (by omega), e1]) ?_
  refine t2_aload_n C dL_law_629 3 rfl ?_
  refine t2_iload_n C dL_law_630 0 rfl ?_
  refine t2_iconst C dL_law_631 (v := nI 2) (by decide) ?_
  refine t2_iadd C dL_law_632 (v := nI (i + 2)) (nI_add _ _) ?_
  refine t2_sld C hX hbl hbA (vp_inI (by omega)) dL_law_633 ?_
  refine T2.ti (y := nI a2) (by rw [tw_cl (by omega), e2]) ?_
  refine t2_callC (As := [.int (nI a1), .int (nI a2)]) (rest := []) hdj hll C NN (c_X10_poke hG hC (i := a1) ha1 (m := a2)) mm_X10_poke wd_229 rfl (hG 0 (by decide)) sh_0 rfl (by decide) rfl (Nat.le_of_ble_eq_true rfl) dL_law_634 ?_
  intro v Sc2 hp
  refine t2_aload_n C dL_law_637 1 rfl ?_
  refine t2_aload_n C dL_law_638 3 rfl ?_
  refine t2_iload_n C dL_law_639 0 rfl ?_
  refine t2_iconst C dL_law_640 (v := nI 1) (by decide) ?_
  refine t2_iadd C dL_law_641 (v := nI (i + 1)) (nI_add _ _) ?_
  refine t2_sld C hX hbl hbA (vp_inI (by omega)) dL_law_642 ?_
  refine T2.ti (y := nI a1) (by rw [tw_cl (by omega), e1]) ?_
  refine t2_aload_n C dL_law_643 3 rfl ?_
  refine t2_iload_n C dL_law_644 0 rfl ?_
  refine t2_iconst C dL_law_645 (v := nI 2) (by decide) ?_
  refine t2_iadd C dL_law_646 (v := nI (i + 2)) (nI_add _ _) ?_
  refine t2_sld C hX hbl hbA (vp_inI (by omega)) dL_law_647 ?_
  refine T2.ti (y := nI a2) (by rw [tw_cl (by omega), e2]) ?_
  refine t2_callM (As := [.int (nI a1), .int (nI a2)]) (rest := [.int v]) hdj hll CM NN (c_X11_poke hM hI (i := a1) ha1 (m := a2) htl) mm_X11_poke wd_249 rfl (hM 114 (by decide) (by decide)) sh_114 rfl (by decide) rfl (Nat.le_of_ble_eq_true rfl) dL_law_648 ?_
  intro v2 Sm2 hq
  obtain ⟨hvv, hB2⟩ : v = v2 ∧ BS Sc2 Sm2 (72 * i + 1000) := BS_if hp hq (fun h p q => by rw [getD_set_same h, xor_m (gD_lt htb _)] at p; exact BS_to hR hNB hF hck p q) (fun _ p q => BS_same hC hI hR hNB hF hck p q)
  refine t2_icmp_eq C dL_law_651 (tgt := 942) (by decide) (fun c => ?_) (fun c => ?_)
  · exact kk Sc2 Sm2 hB2
  · exact absurd hvv c
theorem law_6 {G GM : tw_G} {X : tw_X} {b : Nat} {N : Nat} {xs : Nat → Int32} (hG : tw_cG G) (hM : tw_mG GM) (hdj : ∀ q, q ∈ tw_LA GM → q ∉ tw_LA G) (hll : tw_l GM = tw_l G) (C : tw_C G X cL_law RL) (CM : tw_C GM X cL_law RL) (NN : tw_N X 4 10 386) (hX : va_X b N xs (tx_s X) (tx_s X).heap) (hbl : b < (tx_s X).heap.size) (hbA : ¬ tx_A X b) (hN : N ≤ 7168) {Sc Sm : tw_S} {i : Nat} (hwf : tw_wf G Sc) (hB : BS Sc Sm (72 * i)) (hi14 : i + 14 ≤ N) (kk : ∀ Sc2 Sm2, BS Sc2 Sm2 (72 * i + 1000) → T2 G GM X Sc2 Sm2 [(3, .int (nI i)), (2, .ref (tw_ad GM 114)), (1, .ref (tw_ad G 0)), (0, .ref b)] 942 []) : T2 G GM X Sc Sm [(3, .int (nI i)), (2, .ref (tw_ad GM 114)), (1, .ref (tw_ad G 0)), (0, .ref b)] 656 [] := by
  obtain ⟨K, tp, ot, fr, T, c, hl, ck, wh, dr, la, an, hC, hI, hR, hNB, hF, hck⟩ := hB
  have hW := wf_WFB hG hwf hC hF
  have htb := hW.1.1
  have htl := hW.1.2
  have hol := hW.2.1.2
  have hfb := WFB_f hW
  refine t2_aload_n C dL_law_656 2 rfl ?_
  refine t2_callC (As := []) (rest := []) hdj hll C NN (c_X10_take hG hC hol) mm_X10_take wd_253 rfl (hG 0 (by decide)) sh_0 rfl (by decide) rfl (Nat.le_of_ble_eq_true rfl) dL_law_657 ?_
  intro v Sc2 hp
  refine t2_aload_n C dL_law_660 1 rfl ?_
  refine t2_callM (As := []) (rest := [.int v]) hdj hll CM NN (c_X11_take hM hI hol) mm_X11_take wd_266 rfl (hM 114 (by decide) (by decide)) sh_114 rfl (by decide) rfl (Nat.le_of_ble_eq_true rfl) dL_law_661 ?_
  intro v2 Sm2 hq
  obtain ⟨hvv, hB2⟩ : v = v2 ∧ BS Sc2 Sm2 (72 * i + 1000) := BS_to hR hNB hF hck hp hq
  refine t2_icmp_eq C dL_law_664 (tgt := 942) (by decide) (fun c => ?_) (fun c => ?_)
  · exact kk Sc2 Sm2 hB2
  · exact absurd hvv c
theorem law_7 {G GM : tw_G} {X : tw_X} {b : Nat} {N : Nat} {xs : Nat → Int32} (hG : tw_cG G) (hM : tw_mG GM) (hdj : ∀ q, q ∈ tw_LA GM → q ∉ tw_LA G) (hll : tw_l GM = tw_l G) (C : tw_C G X cL_law RL) (CM : tw_C GM X cL_law RL) (NN : tw_N X 4 10 386) (hX : va_X b N xs (tx_s X) (tx_s X).heap) (hbl : b < (tx_s X).heap.size) (hbA : ¬ tx_A X b) (hN : N ≤ 7168) {Sc Sm : tw_S} {i : Nat} (hwf : tw_wf G Sc) (hB : BS Sc Sm (72 * i)) (hi14 : i + 14 ≤ N) (kk : ∀ Sc2 Sm2, BS Sc2 Sm2 (72 * i + 1000) → T2 G GM X Sc2 Sm2 [(3, .int (nI i)), (2, .ref (tw_ad GM 114)), (1, .ref (tw_ad G 0)), (0, .ref b)] 942 []) : T2 G GM X Sc Sm [(3, .int (nI i)), (2, .ref (tw_ad GM 114)), (1, .ref (tw_ad G 0)), (0, .ref b)] 669 [] := by
  obtain ⟨K, tp, ot, fr, T, c, hl, ck, wh, dr, la, an, hC, hI, hR, hNB, hF, hck⟩ := hB
  have hW := wf_WFB hG hwf hC hF
  have htb := hW.1.1
  have htl := hW.1.2
  have hol := hW.2.1.2
  have hfb := WFB_f hW
  obtain ⟨a1, ha1, e1⟩ := nI_ex (xs (i + 1))
  refine t2_aload_n C dL_law_669 2 rfl ?_
  refine t2_aload_n C dL_law_670 3 rfl ?_
  refine t2_iload_n C dL_law_671 0 rfl ?_
  refine t2_iconst C dL_law_672 (v := nI 1) (by decide) ?_
  refine t2_iadd C dL_law_673 (v := nI (i + 1)) (nI_add _ _) ?_
  refine t2_sld C hX hbl hbA (vp_inI (by omega)) dL_law_674 ?_
  refine T2.ti (y := nI a1) (by rw [tw_cl (by omega), e1]) ?_
  refine t2_callC (As := [.int (nI a1)]) (rest := []) hdj hll C NN (c_X10_out hG hC (i := a1) ha1) mm_X10_out wd_271 rfl (hG 0 (by decide)) sh_0 rfl (by decide) rfl (Nat.le_of_ble_eq_true rfl) dL_law_675 ?_
  intro v Sc2 hp
  refine t2_aload_n C dL_law_678 1 rfl ?_
  refine t2_aload_n C dL_law_679 3 rfl ?_
  refine t2_iload_n C dL_law_680 0 rfl ?_
  refine t2_iconst C dL_law_681 (v := nI 1) (by decide) ?_
  refine t2_iadd C dL_law_682 (v := nI (i + 1)) (nI_add _ _) ?_
  refine t2_sld C hX hbl hbA (vp_inI (by omega)) dL_law_683 ?_
  refine T2.ti (y := nI a1) (by rw [tw_cl (by omega), e1]) ?_
  refine t2_callM (As := [.int (nI a1)]) (rest := [.int v]) hdj hll CM NN (c_X11_out hM hI (i := a1) ha1 hol) mm_X11_out wd_279 rfl (hM 114 (by decide) (by decide)) sh_114 rfl (by decide) rfl (Nat.le_of_ble_eq_true rfl) dL_law_684 ?_
  intro v2 Sm2 hq
  obtain ⟨hvv, hB2⟩ : v = v2 ∧ BS Sc2 Sm2 (72 * i + 1000) := BS_same hC hI hR hNB hF hck hp hq
  refine t2_icmp_eq C dL_law_687 (tgt := 942) (by decide) (fun c => ?_) (fun c => ?_)
  · exact kk Sc2 Sm2 hB2
  · exact absurd hvv c
theorem law_8 {G GM : tw_G} {X : tw_X} {b : Nat} {N : Nat} {xs : Nat → Int32} (hG : tw_cG G) (hM : tw_mG GM) (hdj : ∀ q, q ∈ tw_LA GM → q ∉ tw_LA G) (hll : tw_l GM = tw_l G) (C : tw_C G X cL_law RL) (CM : tw_C GM X cL_law RL) (NN : tw_N X 4 10 386) (hX : va_X b N xs (tx_s X) (tx_s X).heap) (hbl : b < (tx_s X).heap.size) (hbA : ¬ tx_A X b) (hN : N ≤ 7168) {Sc Sm : tw_S} {i : Nat} (hwf : tw_wf G Sc) (hB : BS Sc Sm (72 * i)) (hi14 : i + 14 ≤ N) (kk : ∀ Sc2 Sm2, BS Sc2 Sm2 (72 * i + 1000) → T2 G GM X Sc2 Sm2 [(3, .int (nI i)), (2, .ref (tw_ad GM 114)), (1, .ref (tw_ad G 0)), (0, .ref b)] 942 []) : T2 G GM X Sc Sm [(3, .int (nI i)), (2, .ref (tw_ad GM 114)), (1, .ref (tw_ad G 0)), (0, .ref b)] 692 [] := by
  obtain ⟨K, tp, ot, fr, T, c, hl, ck, wh, dr, la, an, hC, hI, hR, hNB, hF, hck⟩ := hB
  have hW := wf_WFB hG hwf hC hF
  have htb := hW.1.1
  have htl := hW.1.2
  have hol := hW.2.1.2
  have hfb := WFB_f hW
  refine t2_aload_n C dL_law_692 2 rfl ?_
  refine t2_callC (As := []) (rest := []) hdj hll C NN (c_X10_squeeze hG hC ) mm_X10_squeeze wd_283 rfl (hG 0 (by decide)) sh_0 rfl (by decide) rfl (Nat.le_of_ble_eq_true rfl) dL_law_693 ?_
  intro v Sc2 hp
  refine t2_aload_n C dL_law_696 1 rfl ?_
  refine t2_callM (As := []) (rest := [.int v]) hdj hll CM NN (c_X11_squeeze hM hI htb htl) mm_X11_squeeze wd_378 rfl (hM 114 (by decide) (by decide)) sh_114 rfl (by decide) rfl (Nat.le_of_ble_eq_true rfl) dL_law_697 ?_
  intro v2 Sm2 hq
  obtain ⟨hvv, hB2⟩ : v = v2 ∧ BS Sc2 Sm2 (72 * i + 1000) := BS_if hp hq (fun h p q => BS_to hR hNB hF hck p q) (fun _ p q => BS_same hC hI hR hNB hF hck p q)
  refine t2_icmp_eq C dL_law_700 (tgt := 942) (by decide) (fun c => ?_) (fun c => ?_)
  · exact kk Sc2 Sm2 hB2
  · exact absurd hvv c
theorem law_9 {G GM : tw_G} {X : tw_X} {b : Nat} {N : Nat} {xs : Nat → Int32} (hG : tw_cG G) (hM : tw_mG GM) (hdj : ∀ q, q ∈ tw_LA GM → q ∉ tw_LA G) (hll : tw_l GM = tw_l G) (C : tw_C G X cL_law RL) (CM : tw_C GM X cL_law RL) (NN : tw_N X 4 10 386) (hX : va_X b N xs (tx_s X) (tx_s X).heap) (hbl : b < (tx_s X).heap.size) (hbA : ¬ tx_A X b) (hN : N ≤ 7168) {Sc Sm : tw_S} {i : Nat} (hwf : tw_wf G Sc) (hB : BS Sc Sm (72 * i)) (hi14 : i + 14 ≤ N) (kk : ∀ Sc2 Sm2, BS Sc2 Sm2 (72 * i + 1000) → T2 G GM X Sc2 Sm2 [(3, .int (nI i)), (2, .ref (tw_ad GM 114)), (1, .ref (tw_ad G 0)), (0, .ref b)] 942 []) : T2 G GM X Sc Sm [(3, .int (nI i)), (2, .ref (tw_ad GM 114)), (1, .ref (tw_ad G 0)), (0, .ref b)] 705 [] := by
  obtain ⟨K, tp, ot, fr, T, c, hl, ck, wh, dr, la, an, hC, hI, hR, hNB, hF, hck⟩ := hB
  have hW := wf_WFB hG hwf hC hF
  have htb := hW.1.1
  have htl := hW.1.2
  have hol := hW.2.1.2
  have hfb := WFB_f hW
  refine t2_aload_n C dL_law_705 2 rfl ?_
  refine t2_callC (As := []) (rest := []) hdj hll C NN (c_X10_unfold hG hC htb htl) mm_X10_unfold wd_444 rfl (hG 0 (by decide)) sh_0 rfl (by decide) rfl (Nat.le_of_ble_eq_true rfl) dL_law_706 ?_
  intro v Sc2 hp
  refine t2_aload_n C dL_law_709 1 rfl ?_
  refine t2_callM (As := []) (rest := [.int v]) hdj hll CM NN (c_X11_unfold hM hI htb htl) mm_X11_unfold wd_578 rfl (hM 114 (by decide) (by decide)) sh_114 rfl (by decide) rfl (Nat.le_of_ble_eq_true rfl) dL_law_710 ?_
  intro v2 Sm2 hq
  obtain ⟨hvv, hB2⟩ : v = v2 ∧ BS Sc2 Sm2 (72 * i + 1000) := BS_if hp hq (fun h p q => BS_to hR hNB hF hck p q) (fun _ p q => BS_to hR hNB hF hck p q)
  refine t2_icmp_eq C dL_law_713 (tgt := 942) (by decide) (fun c => ?_) (fun c => ?_)
  · exact kk Sc2 Sm2 hB2
  · exact absurd hvv c
theorem law_10 {G GM : tw_G} {X : tw_X} {b : Nat} {N : Nat} {xs : Nat → Int32} (hG : tw_cG G) (hM : tw_mG GM) (hdj : ∀ q, q ∈ tw_LA GM → q ∉ tw_LA G) (hll : tw_l GM = tw_l G) (C : tw_C G X cL_law RL) (CM : tw_C GM X cL_law RL) (NN : tw_N X 4 10 386) (hX : va_X b N xs (tx_s X) (tx_s X).heap) (hbl : b < (tx_s X).heap.size) (hbA : ¬ tx_A X b) (hN : N ≤ 7168) {Sc Sm : tw_S} {i : Nat} (hwf : tw_wf G Sc) (hB : BS Sc Sm (72 * i)) (hi14 : i + 14 ≤ N) (kk : ∀ Sc2 Sm2, BS Sc2 Sm2 (72 * i + 1000) → T2 G GM X Sc2 Sm2 [(3, .int (nI i)), (2, .ref (tw_ad GM 114)), (1, .ref (tw_ad G 0)), (0, .ref b)] 942 []) : T2 G GM X Sc Sm [(3, .int (nI i)), (2, .ref (tw_ad GM 114)), (1, .ref (tw_ad G 0)), (0, .ref b)] 718 [] := by
  obtain ⟨K, tp, ot, fr, T, c, hl, ck, wh, dr, la, an, hC, hI, hR, hNB, hF, hck⟩ := hB
  have hW := wf_WFB hG hwf hC hF
  have htb := hW.1.1
  have htl := hW.1.2
  have hol := hW.2.1.2
  have hfb := WFB_f hW
  obtain ⟨a1, ha1, e1⟩ := nI_ex (xs (i + 1))
  refine t2_aload_n C dL_law_718 2 rfl ?_
  refine t2_aload_n C dL_law_719 3 rfl ?_
  refine t2_iload_n C dL_law_720 0 rfl ?_
  refine t2_iconst C dL_law_721 (v := nI 1) (by decide) ?_
  refine t2_iadd C dL_law_722 (v := nI (i + 1)) (nI_add _ _) ?_
  refine t2_sld C hX hbl hbA (vp_inI (by omega)) dL_law_723 ?_
  refine T2.ti (y := nI a1) (by rw [tw_cl (by omega), e1]) ?_
  refine t2_callC (As := [.int (nI a1)]) (rest := []) hdj hll C NN (c_X10_told hG hC (i := a1) ha1) mm_X10_told wd_642 rfl (hG 0 (by decide)) sh_0 rfl (by decide) rfl (Nat.le_of_ble_eq_true rfl) dL_law_724 ?_
  intro v Sc2 hp
  refine t2_aload_n C dL_law_727 1 rfl ?_
  refine t2_aload_n C dL_law_728 3 rfl ?_
  refine t2_iload_n C dL_law_729 0 rfl ?_
  refine t2_iconst C dL_law_730 (v := nI 1) (by decide) ?_
  refine t2_iadd C dL_law_731 (v := nI (i + 1)) (nI_add _ _) ?_
  refine t2_sld C hX hbl hbA (vp_inI (by omega)) dL_law_732 ?_
  refine T2.ti (y := nI a1) (by rw [tw_cl (by omega), e1]) ?_
  refine t2_callM (As := [.int (nI a1)]) (rest := [.int v]) hdj hll CM NN (c_X11_told hM hI (i := a1) ha1) mm_X11_told wd_646 rfl (hM 114 (by decide) (by decide)) sh_114 rfl (by decide) rfl (Nat.le_of_ble_eq_true rfl) dL_law_733 ?_
  intro v2 Sm2 hq
  obtain ⟨hvv, hB2⟩ : v = v2 ∧ BS Sc2 Sm2 (72 * i + 1000) := BS_same hC hI hR hNB hF hck hp hq
  refine t2_icmp_eq C dL_law_736 (tgt := 942) (by decide) (fun c => ?_) (fun c => ?_)
  · exact kk Sc2 Sm2 hB2
  · exact absurd hvv c
theorem law_11 {G GM : tw_G} {X : tw_X} {b : Nat} {N : Nat} {xs : Nat → Int32} (hG : tw_cG G) (hM : tw_mG GM) (hdj : ∀ q, q ∈ tw_LA GM → q ∉ tw_LA G) (hll : tw_l GM = tw_l G) (C : tw_C G X cL_law RL) (CM : tw_C GM X cL_law RL) (NN : tw_N X 4 10 386) (hX : va_X b N xs (tx_s X) (tx_s X).heap) (hbl : b < (tx_s X).heap.size) (hbA : ¬ tx_A X b) (hN : N ≤ 7168) {Sc Sm : tw_S} {i : Nat} (hwf : tw_wf G Sc) (hB : BS Sc Sm (72 * i)) (hi14 : i + 14 ≤ N) (kk : ∀ Sc2 Sm2, BS Sc2 Sm2 (72 * i + 1000) → T2 G GM X Sc2 Sm2 [(3, .int (nI i)), (2, .ref (tw_ad GM 114)), (1, .ref (tw_ad G 0)), (0, .ref b)] 942 []) : T2 G GM X Sc Sm [(3, .int (nI i)), (2, .ref (tw_ad GM 114)), (1, .ref (tw_ad G 0)), (0, .ref b)] 741 [] := by
  obtain ⟨K, tp, ot, fr, T, c, hl, ck, wh, dr, la, an, hC, hI, hR, hNB, hF, hck⟩ := hB
  have hW := wf_WFB hG hwf hC hF
  have htb := hW.1.1
  have htl := hW.1.2
  have hol := hW.2.1.2
  have hfb := WFB_f hW
  obtain ⟨a1, ha1, e1⟩ := nI_ex (xs (i + 1))
  obtain ⟨a2, ha2, e2⟩ := nI_ex (xs (i + 2))
  refine t2_aload_n C dL_law_741 2 rfl ?_
  refine t2_aload_n C dL_law_742 3 rfl ?_
  refine t2_iload_n C dL_law_743 0 rfl ?_
  refine t2_iconst C dL_law_744 (v := nI 1) (by decide) ?_
  refine t2_iadd C dL_law_745 (v := nI (i + 1)) (nI_add _ _) ?_
  refine t2_sld C hX hbl hbA (vp_inI (by omega)) dL_law_746 ?_
  refine T2.ti (y := nI a1) (by rw [tw_cl (by omega), e1]) ?_
  refine t2_aload_n C dL_law_747 3 rfl ?_
  refine t2_iload_n C dL_law_748 0 rfl ?_
  refine t2_iconst C dL_law_749 (v := nI 2) (by decide) ?_
  refine t2_iadd C dL_law_750 (v := nI (i + 2)) (nI_add _ _) ?_
  refine t2_sld C hX hbl hbA (vp_inI (by omega)) dL_law_751 ?_
  refine T2.ti (y := nI a2) (by rw [tw_cl (by omega), e2]) ?_
  refine t2_callC (As := [.int (nI a1), .int (nI a2)]) (rest := []) hdj hll C NN (c_X10_slice hG hC (i := a1) ha1 (g := a2) ha2) mm_X10_slice wd_650 rfl (hG 0 (by decide)) sh_0 rfl (by decide) rfl (Nat.le_of_ble_eq_true rfl) dL_law_752 ?_
  intro v Sc2 hp
  refine t2_aload_n C dL_law_755 1 rfl ?_
  refine t2_aload_n C dL_law_756 3 rfl ?_
  refine t2_iload_n C dL_law_757 0 rfl ?_
  refine t2_iconst C dL_law_758 (v := nI 1) (by decide) ?_
  refine t2_iadd C dL_law_759 (v := nI (i + 1)) (nI_add _ _) ?_
  refine t2_sld C hX hbl hbA (vp_inI (by omega)) dL_law_760 ?_
  refine T2.ti (y := nI a1) (by rw [tw_cl (by omega), e1]) ?_
  refine t2_aload_n C dL_law_761 3 rfl ?_
  refine t2_iload_n C dL_law_762 0 rfl ?_
  refine t2_iconst C dL_law_763 (v := nI 2) (by decide) ?_
  refine t2_iadd C dL_law_764 (v := nI (i + 2)) (nI_add _ _) ?_
  refine t2_sld C hX hbl hbA (vp_inI (by omega)) dL_law_765 ?_
  refine T2.ti (y := nI a2) (by rw [tw_cl (by omega), e2]) ?_
  refine t2_callM (As := [.int (nI a1), .int (nI a2)]) (rest := [.int v]) hdj hll CM NN (c_X11_slice hM hI (i := a1) ha1 (g := a2) ha2 htb htl) mm_X11_slice wd_687 rfl (hM 114 (by decide) (by decide)) sh_114 rfl (by decide) rfl (Nat.le_of_ble_eq_true rfl) dL_law_766 ?_
  intro v2 Sm2 hq
  obtain ⟨hvv, hB2⟩ : v = v2 ∧ BS Sc2 Sm2 (72 * i + 1000) := BS_if hp hq (fun h p q => BS_if p q (fun h2 p q => BS_to hR hNB (F1_slice hW hF h.1 h.2.1 h2) hck p q) (fun _ p q => BS_same hC hI hR hNB hF hck p q)) (fun _ p q => BS_same hC hI hR hNB hF hck p q)
  refine t2_icmp_eq C dL_law_769 (tgt := 942) (by decide) (fun c => ?_) (fun c => ?_)
  · exact kk Sc2 Sm2 hB2
  · exact absurd hvv c
theorem law_12 {G GM : tw_G} {X : tw_X} {b : Nat} {N : Nat} {xs : Nat → Int32} (hG : tw_cG G) (hM : tw_mG GM) (hdj : ∀ q, q ∈ tw_LA GM → q ∉ tw_LA G) (hll : tw_l GM = tw_l G) (C : tw_C G X cL_law RL) (CM : tw_C GM X cL_law RL) (NN : tw_N X 4 10 386) (hX : va_X b N xs (tx_s X) (tx_s X).heap) (hbl : b < (tx_s X).heap.size) (hbA : ¬ tx_A X b) (hN : N ≤ 7168) {Sc Sm : tw_S} {i : Nat} (hwf : tw_wf G Sc) (hB : BS Sc Sm (72 * i)) (hi14 : i + 14 ≤ N) (kk : ∀ Sc2 Sm2, BS Sc2 Sm2 (72 * i + 1000) → T2 G GM X Sc2 Sm2 [(3, .int (nI i)), (2, .ref (tw_ad GM 114)), (1, .ref (tw_ad G 0)), (0, .ref b)] 942 []) : T2 G GM X Sc Sm [(3, .int (nI i)), (2, .ref (tw_ad GM 114)), (1, .ref (tw_ad G 0)), (0, .ref b)] 774 [] := by
  obtain ⟨K, tp, ot, fr, T, c, hl, ck, wh, dr, la, an, hC, hI, hR, hNB, hF, hck⟩ := hB
  have hW := wf_WFB hG hwf hC hF
  have htb := hW.1.1
  have htl := hW.1.2
  have hol := hW.2.1.2
  have hfb := WFB_f hW
  obtain ⟨a1, ha1, e1⟩ := nI_ex (xs (i + 1))
  obtain ⟨a2, ha2, e2⟩ := nI_ex (xs (i + 2))
  refine t2_aload_n C dL_law_774 2 rfl ?_
  refine t2_aload_n C dL_law_775 3 rfl ?_
  refine t2_iload_n C dL_law_776 0 rfl ?_
  refine t2_iconst C dL_law_777 (v := nI 1) (by decide) ?_
  refine t2_iadd C dL_law_778 (v := nI (i + 1)) (nI_add _ _) ?_
  refine t2_sld C hX hbl hbA (vp_inI (by omega)) dL_law_779 ?_
  refine T2.ti (y := nI a1) (by rw [tw_cl (by omega), e1]) ?_
  refine t2_aload_n C dL_law_780 3 rfl ?_
  refine t2_iload_n C dL_law_781 0 rfl ?_
  refine t2_iconst C dL_law_782 (v := nI 2) (by decide) ?_
  refine t2_iadd C dL_law_783 (v := nI (i + 2)) (nI_add _ _) ?_
  refine t2_sld C hX hbl hbA (vp_inI (by omega)) dL_law_784 ?_
  refine T2.ti (y := nI a2) (by rw [tw_cl (by omega), e2]) ?_
  refine t2_callC (As := [.int (nI a1), .int (nI a2)]) (rest := []) hdj hll C NN (c_X10_frame hG hC (k := a1) ha1 (i := a2) ha2) mm_X10_frame wd_701 rfl (hG 0 (by decide)) sh_0 rfl (by decide) rfl (Nat.le_of_ble_eq_true rfl) dL_law_785 ?_
  intro v Sc2 hp
  refine t2_aload_n C dL_law_788 1 rfl ?_
  refine t2_aload_n C dL_law_789 3 rfl ?_
  refine t2_iload_n C dL_law_790 0 rfl ?_
  refine t2_iconst C dL_law_791 (v := nI 1) (by decide) ?_
  refine t2_iadd C dL_law_792 (v := nI (i + 1)) (nI_add _ _) ?_
  refine t2_sld C hX hbl hbA (vp_inI (by omega)) dL_law_793 ?_
  refine T2.ti (y := nI a1) (by rw [tw_cl (by omega), e1]) ?_
  refine t2_aload_n C dL_law_794 3 rfl ?_
  refine t2_iload_n C dL_law_795 0 rfl ?_
  refine t2_iconst C dL_law_796 (v := nI 2) (by decide) ?_
  refine t2_iadd C dL_law_797 (v := nI (i + 2)) (nI_add _ _) ?_
  refine t2_sld C hX hbl hbA (vp_inI (by omega)) dL_law_798 ?_
  refine T2.ti (y := nI a2) (by rw [tw_cl (by omega), e2]) ?_
  refine t2_callM (As := [.int (nI a1), .int (nI a2)]) (rest := [.int v]) hdj hll CM NN (c_X11_frame hM hI (k := a1) ha1 (i := a2) ha2 hfb) mm_X11_frame wd_713 rfl (hM 114 (by decide) (by decide)) sh_114 rfl (by decide) rfl (Nat.le_of_ble_eq_true rfl) dL_law_799 ?_
  intro v2 Sm2 hq
  obtain ⟨hvv, hB2⟩ : v = v2 ∧ BS Sc2 Sm2 (72 * i + 1000) := BS_if hp hq (fun h p q => BS_same hC hI hR hNB hF hck p q) (fun _ p q => BS_same hC hI hR hNB hF hck p q)
  refine t2_icmp_eq C dL_law_802 (tgt := 942) (by decide) (fun c => ?_) (fun c => ?_)
  · exact kk Sc2 Sm2 hB2
  · exact absurd hvv c
theorem law_13 {G GM : tw_G} {X : tw_X} {b : Nat} {N : Nat} {xs : Nat → Int32} (hG : tw_cG G) (hM : tw_mG GM) (hdj : ∀ q, q ∈ tw_LA GM → q ∉ tw_LA G) (hll : tw_l GM = tw_l G) (C : tw_C G X cL_law RL) (CM : tw_C GM X cL_law RL) (NN : tw_N X 4 10 386) (hX : va_X b N xs (tx_s X) (tx_s X).heap) (hbl : b < (tx_s X).heap.size) (hbA : ¬ tx_A X b) (hN : N ≤ 7168) {Sc Sm : tw_S} {i : Nat} (hwf : tw_wf G Sc) (hB : BS Sc Sm (72 * i)) (hi14 : i + 14 ≤ N) (kk : ∀ Sc2 Sm2, BS Sc2 Sm2 (72 * i + 1000) → T2 G GM X Sc2 Sm2 [(3, .int (nI i)), (2, .ref (tw_ad GM 114)), (1, .ref (tw_ad G 0)), (0, .ref b)] 942 []) : T2 G GM X Sc Sm [(3, .int (nI i)), (2, .ref (tw_ad GM 114)), (1, .ref (tw_ad G 0)), (0, .ref b)] 807 [] := by
  obtain ⟨K, tp, ot, fr, T, c, hl, ck, wh, dr, la, an, hC, hI, hR, hNB, hF, hck⟩ := hB
  have hW := wf_WFB hG hwf hC hF
  have htb := hW.1.1
  have htl := hW.1.2
  have hol := hW.2.1.2
  have hfb := WFB_f hW
  obtain ⟨a1, ha1, e1⟩ := nI_ex (xs (i + 1))
  obtain ⟨a2, ha2, e2⟩ := nI_ex (xs (i + 2))
  obtain ⟨a3, ha3, e3⟩ := nI_ex (xs (i + 3))
  refine t2_aload_n C dL_law_807 2 rfl ?_
  refine t2_aload_n C dL_law_808 3 rfl ?_
  refine t2_iload_n C dL_law_809 0 rfl ?_
  refine t2_iconst C dL_law_810 (v := nI 1) (by decide) ?_
  refine t2_iadd C dL_law_811 (v := nI (i + 1)) (nI_add _ _) ?_
  refine t2_sld C hX hbl hbA (vp_inI (by omega)) dL_law_812 ?_
  refine T2.ti (y := nI a1) (by rw [tw_cl (by omega), e1]) ?_
  refine t2_aload_n C dL_law_813 3 rfl ?_
  refine t2_iload_n C dL_law_814 0 rfl ?_
  refine t2_iconst C dL_law_815 (v := nI 2) (by decide) ?_
  refine t2_iadd C dL_law_816 (v := nI (i + 2)) (nI_add _ _) ?_
  refine t2_sld C hX hbl hbA (vp_inI (by omega)) dL_law_817 ?_
  refine T2.ti (y := nI a2) (by rw [tw_cl (by omega), e2]) ?_
  refine t2_aload_n C dL_law_818 3 rfl ?_
  refine t2_iload_n C dL_law_819 0 rfl ?_
  refine t2_iconst C dL_law_820 (v := nI 3) (by decide) ?_
  refine t2_iadd C dL_law_821 (v := nI (i + 3)) (nI_add _ _) ?_
  refine t2_sld C hX hbl hbA (vp_inI (by omega)) dL_law_822 ?_
  refine T2.ti (y := nI a3) (by rw [tw_cl (by omega), e3]) ?_
  refine t2_callC (As := [.int (nI a1), .int (nI a2), .int (nI a3)]) (rest := []) hdj hll C NN (c_X10_spoil hG hC (k := a1) ha1 (i := a2) ha2 (m := a3)) mm_X10_spoil wd_721 rfl (hG 0 (by decide)) sh_0 rfl (by decide) rfl (Nat.le_of_ble_eq_true rfl) dL_law_823 ?_
  intro v Sc2 hp
  refine t2_aload_n C dL_law_826 1 rfl ?_
  refine t2_aload_n C dL_law_827 3 rfl ?_
  refine t2_iload_n C dL_law_828 0 rfl ?_
  refine t2_iconst C dL_law_829 (v := nI 1) (by decide) ?_
  refine t2_iadd C dL_law_830 (v := nI (i + 1)) (nI_add _ _) ?_
  refine t2_sld C hX hbl hbA (vp_inI (by omega)) dL_law_831 ?_
  refine T2.ti (y := nI a1) (by rw [tw_cl (by omega), e1]) ?_
  refine t2_aload_n C dL_law_832 3 rfl ?_
  refine t2_iload_n C dL_law_833 0 rfl ?_
  refine t2_iconst C dL_law_834 (v := nI 2) (by decide) ?_
  refine t2_iadd C dL_law_835 (v := nI (i + 2)) (nI_add _ _) ?_
  refine t2_sld C hX hbl hbA (vp_inI (by omega)) dL_law_836 ?_
  refine T2.ti (y := nI a2) (by rw [tw_cl (by omega), e2]) ?_
  refine t2_aload_n C dL_law_837 3 rfl ?_
  refine t2_iload_n C dL_law_838 0 rfl ?_
  refine t2_iconst C dL_law_839 (v := nI 3) (by decide) ?_
  refine t2_iadd C dL_law_840 (v := nI (i + 3)) (nI_add _ _) ?_
  refine t2_sld C hX hbl hbA (vp_inI (by omega)) dL_law_841 ?_
  refine T2.ti (y := nI a3) (by rw [tw_cl (by omega), e3]) ?_
  refine t2_callM (As := [.int (nI a1), .int (nI a2), .int (nI a3)]) (rest := [.int v]) hdj hll CM NN (c_X11_spoil hM hI (k := a1) ha1 (i := a2) ha2 (m := a3) hfb) mm_X11_spoil wd_725 rfl (hM 114 (by decide) (by decide)) sh_114 rfl (by decide) rfl (Nat.le_of_ble_eq_true rfl) dL_law_842 ?_
  intro v2 Sm2 hq
  obtain ⟨hvv, hB2⟩ : v = v2 ∧ BS Sc2 Sm2 (72 * i + 1000) := BS_if hp hq (fun h p q => by rw [getD_set_same h.2, xor_m (gD_lt (hfb a1 h.1).1 _)] at p; exact BS_to hR hNB (F1_set hF h.2) hck p q) (fun _ p q => BS_same hC hI hR hNB hF hck p q)
  refine t2_icmp_eq C dL_law_845 (tgt := 942) (by decide) (fun c => ?_) (fun c => ?_)
  · exact kk Sc2 Sm2 hB2
  · exact absurd hvv c
theorem law_14 {G GM : tw_G} {X : tw_X} {b : Nat} {N : Nat} {xs : Nat → Int32} (hG : tw_cG G) (hM : tw_mG GM) (hdj : ∀ q, q ∈ tw_LA GM → q ∉ tw_LA G) (hll : tw_l GM = tw_l G) (C : tw_C G X cL_law RL) (CM : tw_C GM X cL_law RL) (NN : tw_N X 4 10 386) (hX : va_X b N xs (tx_s X) (tx_s X).heap) (hbl : b < (tx_s X).heap.size) (hbA : ¬ tx_A X b) (hN : N ≤ 7168) {Sc Sm : tw_S} {i : Nat} (hwf : tw_wf G Sc) (hB : BS Sc Sm (72 * i)) (hi14 : i + 14 ≤ N) (kk : ∀ Sc2 Sm2, BS Sc2 Sm2 (72 * i + 1000) → T2 G GM X Sc2 Sm2 [(3, .int (nI i)), (2, .ref (tw_ad GM 114)), (1, .ref (tw_ad G 0)), (0, .ref b)] 942 []) : T2 G GM X Sc Sm [(3, .int (nI i)), (2, .ref (tw_ad GM 114)), (1, .ref (tw_ad G 0)), (0, .ref b)] 850 [] := by
  obtain ⟨K, tp, ot, fr, T, c, hl, ck, wh, dr, la, an, hC, hI, hR, hNB, hF, hck⟩ := hB
  have hW := wf_WFB hG hwf hC hF
  have htb := hW.1.1
  have htl := hW.1.2
  have hol := hW.2.1.2
  have hfb := WFB_f hW
  obtain ⟨a1, ha1, e1⟩ := nI_ex (xs (i + 1))
  refine t2_aload_n C dL_law_850 2 rfl ?_
  refine t2_aload_n C dL_law_851 3 rfl ?_
  refine t2_iload_n C dL_law_852 0 rfl ?_
  refine t2_iconst C dL_law_853 (v := nI 1) (by decide) ?_
  refine t2_iadd C dL_law_854 (v := nI (i + 1)) (nI_add _ _) ?_
  refine t2_sld C hX hbl hbA (vp_inI (by omega)) dL_law_855 ?_
  refine T2.ti (y := nI a1) (by rw [tw_cl (by omega), e1]) ?_
  refine t2_callC (As := [.int (nI a1)]) (rest := []) hdj hll C NN (c_X10_put hG hC (k := a1) ha1 htl) mm_X10_put wd_729 rfl (hG 0 (by decide)) sh_0 rfl (by decide) rfl (Nat.le_of_ble_eq_true rfl) dL_law_856 ?_
  intro v Sc2 hp
  refine t2_aload_n C dL_law_859 1 rfl ?_
  refine t2_aload_n C dL_law_860 3 rfl ?_
  refine t2_iload_n C dL_law_861 0 rfl ?_
  refine t2_iconst C dL_law_862 (v := nI 1) (by decide) ?_
  refine t2_iadd C dL_law_863 (v := nI (i + 1)) (nI_add _ _) ?_
  refine t2_sld C hX hbl hbA (vp_inI (by omega)) dL_law_864 ?_
  refine T2.ti (y := nI a1) (by rw [tw_cl (by omega), e1]) ?_
  refine t2_callM (As := [.int (nI a1)]) (rest := [.int v]) hdj hll CM NN (c_X11_put hM hI (k := a1) ha1 htb htl (fun k hk => (hfb k hk).2)) mm_X11_put wd_735 rfl (hM 114 (by decide) (by decide)) sh_114 rfl (by decide) rfl (Nat.le_of_ble_eq_true rfl) dL_law_865 ?_
  intro v2 Sm2 hq
  obtain ⟨hvv, hB2⟩ : v = v2 ∧ BS Sc2 Sm2 (72 * i + 1000) := BS_to hR hNB (F1_put hF) hck hp hq
  refine t2_icmp_eq C dL_law_868 (tgt := 942) (by decide) (fun c => ?_) (fun c => ?_)
  · exact kk Sc2 Sm2 hB2
  · exact absurd hvv c
theorem law_15 {G GM : tw_G} {X : tw_X} {b : Nat} {N : Nat} {xs : Nat → Int32} (hG : tw_cG G) (hM : tw_mG GM) (hdj : ∀ q, q ∈ tw_LA GM → q ∉ tw_LA G) (hll : tw_l GM = tw_l G) (C : tw_C G X cL_law RL) (CM : tw_C GM X cL_law RL) (NN : tw_N X 4 10 386) (hX : va_X b N xs (tx_s X) (tx_s X).heap) (hbl : b < (tx_s X).heap.size) (hbA : ¬ tx_A X b) (hN : N ≤ 7168) {Sc Sm : tw_S} {i : Nat} (hwf : tw_wf G Sc) (hB : BS Sc Sm (72 * i)) (hi14 : i + 14 ≤ N) (kk : ∀ Sc2 Sm2, BS Sc2 Sm2 (72 * i + 1000) → T2 G GM X Sc2 Sm2 [(3, .int (nI i)), (2, .ref (tw_ad GM 114)), (1, .ref (tw_ad G 0)), (0, .ref b)] 942 []) : T2 G GM X Sc Sm [(3, .int (nI i)), (2, .ref (tw_ad GM 114)), (1, .ref (tw_ad G 0)), (0, .ref b)] 873 [] := by
  obtain ⟨K, tp, ot, fr, T, c, hl, ck, wh, dr, la, an, hC, hI, hR, hNB, hF, hck⟩ := hB
  have hW := wf_WFB hG hwf hC hF
  have htb := hW.1.1
  have htl := hW.1.2
  have hol := hW.2.1.2
  have hfb := WFB_f hW
  obtain ⟨a1, ha1, e1⟩ := nI_ex (xs (i + 1))
  refine t2_aload_n C dL_law_873 2 rfl ?_
  refine t2_aload_n C dL_law_874 3 rfl ?_
  refine t2_iload_n C dL_law_875 0 rfl ?_
  refine t2_iconst C dL_law_876 (v := nI 1) (by decide) ?_
  refine t2_iadd C dL_law_877 (v := nI (i + 1)) (nI_add _ _) ?_
  refine t2_sld C hX hbl hbA (vp_inI (by omega)) dL_law_878 ?_
  refine T2.ti (y := nI a1) (by rw [tw_cl (by omega), e1]) ?_
  refine t2_callC (As := [.int (nI a1)]) (rest := []) hdj hll C NN (c_X10_hear hG hC (k := a1) ha1 (by omega) hNB hfb) mm_X10_hear wd_739 rfl (hG 0 (by decide)) sh_0 rfl (by decide) rfl (Nat.le_of_ble_eq_true rfl) dL_law_879 ?_
  intro v Sc2 hp
  refine t2_aload_n C dL_law_882 1 rfl ?_
  refine t2_aload_n C dL_law_883 3 rfl ?_
  refine t2_iload_n C dL_law_884 0 rfl ?_
  refine t2_iconst C dL_law_885 (v := nI 1) (by decide) ?_
  refine t2_iadd C dL_law_886 (v := nI (i + 1)) (nI_add _ _) ?_
  refine t2_sld C hX hbl hbA (vp_inI (by omega)) dL_law_887 ?_
  refine T2.ti (y := nI a1) (by rw [tw_cl (by omega), e1]) ?_
  refine t2_callM (As := [.int (nI a1)]) (rest := [.int v]) hdj hll CM NN (c_X11_hear hM hI (k := a1) ha1 hfb (WFB_1 hW) (HR_eW hR).1 (HR_eW hR).2.1 (HR_eW hR).2.2.1 (HR_eW hR).2.2.2 (by omega)) mm_X11_hear wd_831 rfl (hM 114 (by decide) (by decide)) sh_114 rfl (by decide) rfl (Nat.le_of_ble_eq_true rfl) dL_law_888 ?_
  intro v2 Sm2 hq
  obtain ⟨hvv, hB2⟩ : v = v2 ∧ BS Sc2 Sm2 (72 * i + 1000) := st_hear hC hI hR hNB hF hck hW hp hq
  refine t2_icmp_eq C dL_law_891 (tgt := 942) (by decide) (fun c => ?_) (fun c => ?_)
  · exact kk Sc2 Sm2 hB2
  · exact absurd hvv c
theorem law_16 {G GM : tw_G} {X : tw_X} {b : Nat} {N : Nat} {xs : Nat → Int32} (hG : tw_cG G) (hM : tw_mG GM) (hdj : ∀ q, q ∈ tw_LA GM → q ∉ tw_LA G) (hll : tw_l GM = tw_l G) (C : tw_C G X cL_law RL) (CM : tw_C GM X cL_law RL) (NN : tw_N X 4 10 386) (hX : va_X b N xs (tx_s X) (tx_s X).heap) (hbl : b < (tx_s X).heap.size) (hbA : ¬ tx_A X b) (hN : N ≤ 7168) {Sc Sm : tw_S} {i : Nat} (hwf : tw_wf G Sc) (hB : BS Sc Sm (72 * i)) (hi14 : i + 14 ≤ N) (kk : ∀ Sc2 Sm2, BS Sc2 Sm2 (72 * i + 1000) → T2 G GM X Sc2 Sm2 [(3, .int (nI i)), (2, .ref (tw_ad GM 114)), (1, .ref (tw_ad G 0)), (0, .ref b)] 942 []) : T2 G GM X Sc Sm [(3, .int (nI i)), (2, .ref (tw_ad GM 114)), (1, .ref (tw_ad G 0)), (0, .ref b)] 896 [] := by
  obtain ⟨K, tp, ot, fr, T, c, hl, ck, wh, dr, la, an, hC, hI, hR, hNB, hF, hck⟩ := hB
  have hW := wf_WFB hG hwf hC hF
  have htb := hW.1.1
  have htl := hW.1.2
  have hol := hW.2.1.2
  have hfb := WFB_f hW
  obtain ⟨a1, ha1, e1⟩ := nI_ex (xs (i + 1))
  refine t2_aload_n C dL_law_896 2 rfl ?_
  refine t2_aload_n C dL_law_897 3 rfl ?_
  refine t2_iload_n C dL_law_898 0 rfl ?_
  refine t2_iconst C dL_law_899 (v := nI 1) (by decide) ?_
  refine t2_iadd C dL_law_900 (v := nI (i + 1)) (nI_add _ _) ?_
  refine t2_sld C hX hbl hbA (vp_inI (by omega)) dL_law_901 ?_
  refine T2.ti (y := nI a1) (by rw [tw_cl (by omega), e1]) ?_
  refine t2_callC (As := [.int (nI a1)]) (rest := []) hdj hll C NN (c_X10_pass hG hC (i := a1) ha1) mm_X10_pass wd_857 rfl (hG 0 (by decide)) sh_0 rfl (by decide) rfl (Nat.le_of_ble_eq_true rfl) dL_law_902 ?_
  intro v Sc2 hp
  refine t2_aload_n C dL_law_905 1 rfl ?_
  refine t2_aload_n C dL_law_906 3 rfl ?_
  refine t2_iload_n C dL_law_907 0 rfl ?_
  refine t2_iconst C dL_law_908 (v := nI 1) (by decide) ?_
  refine t2_iadd C dL_law_909 (v := nI (i + 1)) (nI_add _ _) ?_
  refine t2_sld C hX hbl hbA (vp_inI (by omega)) dL_law_910 ?_
  refine T2.ti (y := nI a1) (by rw [tw_cl (by omega), e1]) ?_
  refine t2_callM (As := [.int (nI a1)]) (rest := [.int v]) hdj hll CM NN (c_X11_pass hM hI (i := a1) ha1) mm_X11_pass wd_865 rfl (hM 114 (by decide) (by decide)) sh_114 rfl (by decide) rfl (Nat.le_of_ble_eq_true rfl) dL_law_911 ?_
  intro v2 Sm2 hq
  obtain ⟨hvv, hB2⟩ : v = v2 ∧ BS Sc2 Sm2 (72 * i + 1000) := BS_if hp hq (fun h p q => ⟨p.1.trans q.1.symm, K, tp, ot, fr, T, c, hl, ck + a1, wh, dr, la, an, p.2, q.2, HR_up hR (by omega), hNB, hF, by omega⟩) (fun _ p q => BS_same hC hI hR hNB hF hck p q)
  refine t2_icmp_eq C dL_law_914 (tgt := 942) (by decide) (fun c => ?_) (fun c => ?_)
  · exact kk Sc2 Sm2 hB2
  · exact absurd hvv c
theorem law_17 {G GM : tw_G} {X : tw_X} {b : Nat} {N : Nat} {xs : Nat → Int32} (hG : tw_cG G) (hM : tw_mG GM) (hdj : ∀ q, q ∈ tw_LA GM → q ∉ tw_LA G) (hll : tw_l GM = tw_l G) (C : tw_C G X cL_law RL) (CM : tw_C GM X cL_law RL) (NN : tw_N X 4 10 386) (hX : va_X b N xs (tx_s X) (tx_s X).heap) (hbl : b < (tx_s X).heap.size) (hbA : ¬ tx_A X b) (hN : N ≤ 7168) {Sc Sm : tw_S} {i : Nat} (hwf : tw_wf G Sc) (hB : BS Sc Sm (72 * i)) (hi14 : i + 14 ≤ N) (kk : ∀ Sc2 Sm2, BS Sc2 Sm2 (72 * i + 1000) → T2 G GM X Sc2 Sm2 [(3, .int (nI i)), (2, .ref (tw_ad GM 114)), (1, .ref (tw_ad G 0)), (0, .ref b)] 942 []) : T2 G GM X Sc Sm [(3, .int (nI i)), (2, .ref (tw_ad GM 114)), (1, .ref (tw_ad G 0)), (0, .ref b)] 919 [] := by
  obtain ⟨K, tp, ot, fr, T, c, hl, ck, wh, dr, la, an, hC, hI, hR, hNB, hF, hck⟩ := hB
  have hW := wf_WFB hG hwf hC hF
  have htb := hW.1.1
  have htl := hW.1.2
  have hol := hW.2.1.2
  have hfb := WFB_f hW
  obtain ⟨a1, ha1, e1⟩ := nI_ex (xs (i + 1))
  refine t2_aload_n C dL_law_919 2 rfl ?_
  refine t2_aload_n C dL_law_920 3 rfl ?_
  refine t2_iload_n C dL_law_921 0 rfl ?_
  refine t2_iconst C dL_law_922 (v := nI 1) (by decide) ?_
  refine t2_iadd C dL_law_923 (v := nI (i + 1)) (nI_add _ _) ?_
  refine t2_sld C hX hbl hbA (vp_inI (by omega)) dL_law_924 ?_
  refine T2.ti (y := nI a1) (by rw [tw_cl (by omega), e1]) ?_
  refine t2_callC (As := [.int (nI a1)]) (rest := []) hdj hll C NN (c_X10_count hG hC (i := a1) ha1) mm_X10_count wd_869 rfl (hG 0 (by decide)) sh_0 rfl (by decide) rfl (Nat.le_of_ble_eq_true rfl) dL_law_925 ?_
  intro v Sc2 hp
  refine t2_aload_n C dL_law_928 1 rfl ?_
  refine t2_aload_n C dL_law_929 3 rfl ?_
  refine t2_iload_n C dL_law_930 0 rfl ?_
  refine t2_iconst C dL_law_931 (v := nI 1) (by decide) ?_
  refine t2_iadd C dL_law_932 (v := nI (i + 1)) (nI_add _ _) ?_
  refine t2_sld C hX hbl hbA (vp_inI (by omega)) dL_law_933 ?_
  refine T2.ti (y := nI a1) (by rw [tw_cl (by omega), e1]) ?_
  refine t2_callM (As := [.int (nI a1)]) (rest := [.int v]) hdj hll CM NN (c_X11_count hM hI (i := a1) ha1 (HR_eW hR).1) mm_X11_count wd_893 rfl (hM 114 (by decide) (by decide)) sh_114 rfl (by decide) rfl (Nat.le_of_ble_eq_true rfl) dL_law_934 ?_
  intro v2 Sm2 hq
  obtain ⟨hvv, hB2⟩ : v = v2 ∧ BS Sc2 Sm2 (72 * i + 1000) := by rw [HR_cnt hR] at hp; exact BS_same hC hI hR hNB hF hck hp hq
  refine t2_icmp_eq C dL_law_937 (tgt := 942) (by decide) (fun c => ?_) (fun c => ?_)
  · exact kk Sc2 Sm2 hB2
  · exact absurd hvv c
theorem law_loop {G GM : tw_G} {X : tw_X} {b : Nat} {N : Nat} {xs : Nat → Int32} (hG : tw_cG G) (hM : tw_mG GM) (hdj : ∀ q, q ∈ tw_LA GM → q ∉ tw_LA G) (hll : tw_l GM = tw_l G) (C : tw_C G X cL_law RL) (CM : tw_C GM X cL_law RL) (NN : tw_N X 4 10 386) (hX : va_X b N xs (tx_s X) (tx_s X).heap) (hbl : b < (tx_s X).heap.size) (hbA : ¬ tx_A X b) (hN : N ≤ 7168) (kend : ∀ Sc Sm i, T2 G GM X Sc Sm [(3, .int (nI i)), (2, .ref (tw_ad GM 114)), (1, .ref (tw_ad G 0)), (0, .ref b)] 948 []) : ∀ (d i : Nat) (Sc Sm : tw_S), N < i + 14 + 14 * d → i ≤ 9000 → BS Sc Sm (72 * i) → T2 G GM X Sc Sm [(3, .int (nI i)), (2, .ref (tw_ad GM 114)), (1, .ref (tw_ad G 0)), (0, .ref b)] 18 [] := by
  intro d
  induction d with
  | zero =>
    intro i Sc Sm hd hi hB
    refine t2_iload_n C dL_law_18 0 rfl ?_
    refine t2_aload_n C dL_law_19 3 rfl ?_
    refine t2_slen C hX hbl hbA dL_law_20 ?_
    refine t2_bipush C dL_law_21 (v := nI 14) (by decide) ?_
    refine t2_isub C dL_law_23 (v := nI N - nI 14) rfl ?_
    refine t2_icmp_gt C dL_law_24 (tgt := 948) (by decide) (fun c => ?_) (fun c => ?_)
    · exact kend Sc Sm i
    · exact absurd ((law_gt hN (by omega)).mpr (by omega)) c
  | succ d ih =>
    intro i Sc Sm hd hi hB
    refine t2_iload_n C dL_law_18 0 rfl ?_
    refine t2_aload_n C dL_law_19 3 rfl ?_
    refine t2_slen C hX hbl hbA dL_law_20 ?_
    refine t2_bipush C dL_law_21 (v := nI 14) (by decide) ?_
    refine t2_isub C dL_law_23 (v := nI N - nI 14) rfl ?_
    refine t2_icmp_gt C dL_law_24 (tgt := 948) (by decide) (fun c => ?_) (fun c => ?_)
    · exact kend Sc Sm i
    · have hi14 : i + 14 ≤ N := by
        have h9 : ¬ N < i + 14 := fun h => c ((law_gt hN (by omega)).mpr h)
        omega
      have kk : ∀ Sc2 Sm2, BS Sc2 Sm2 (72 * i + 1000) → T2 G GM X Sc2 Sm2 [(3, .int (nI i)), (2, .ref (tw_ad GM 114)), (1, .ref (tw_ad G 0)), (0, .ref b)] 942 [] := fun Sc2 Sm2 h2 => by
        refine t2_iinc (k := 0) (v := nI (i + 14)) (L' := [(3, .int (nI (i + 14))), (2, .ref (tw_ad GM 114)), (1, .ref (tw_ad G 0)), (0, .ref b)]) C NN dL_law_942 rfl (tn_inc14 _) (by decide) rfl ?_
        refine t2_goto C dL_law_945 (tgt := 18) (by decide) ?_
        exact ih (i + 14) Sc2 Sm2 (by omega) (by omega) (BS_up h2 (by omega))
      refine T2.wf (fun hwf => ?_)
      refine t2_aload_n C dL_law_27 3 rfl ?_
      refine t2_iload_n C dL_law_28 0 rfl ?_
      refine t2_sld C hX hbl hbA (vp_inI (by omega)) dL_law_29 ?_
      obtain ⟨a0, ha0, e0⟩ := nI_ex (xs i)
      refine T2.ti (y := nI a0) (by rw [tw_cl (by omega), e0]) ?_
      refine t2_bipush C dL_law_30 (v := nI 31) (by decide) ?_
      refine t2_iand C dL_law_32 (v := nI (a0 % 32)) (nI_andm 5 (by decide)) ?_
      rcases (show a0 % 32 = 0 ∨ a0 % 32 = 1 ∨ a0 % 32 = 2 ∨ a0 % 32 = 3 ∨ a0 % 32 = 4 ∨ a0 % 32 = 5 ∨ a0 % 32 = 6 ∨ a0 % 32 = 7 ∨ a0 % 32 = 8 ∨ a0 % 32 = 9 ∨ a0 % 32 = 10 ∨ a0 % 32 = 11 ∨ a0 % 32 = 12 ∨ a0 % 32 = 13 ∨ a0 % 32 = 14 ∨ a0 % 32 = 15 ∨ a0 % 32 = 16 ∨ a0 % 32 = 17 ∨ 17 < a0 % 32 by omega) with q | q | q | q | q | q | q | q | q | q | q | q | q | q | q | q | q | q | q
      · exact t2n_tabIn (tgt := 120) (off := 87) C dL_law_33 (by omega) (by omega) (by omega) (by simp [q]) (by decide) (law_0 hG hM hdj hll C CM NN hX hbl hbA hN hwf hB hi14 kk)
      · exact t2n_tabIn (tgt := 209) (off := 176) C dL_law_33 (by omega) (by omega) (by omega) (by simp [q]) (by decide) (law_1 hG hM hdj hll C CM NN hX hbl hbA hN hwf hB hi14 kk)
      · exact t2n_tabIn (tgt := 298) (off := 265) C dL_law_33 (by omega) (by omega) (by omega) (by simp [q]) (by decide) (law_2 hG hM hdj hll C CM NN hX hbl hbA hN hwf hB hi14 kk)
      · exact t2n_tabIn (tgt := 361) (off := 328) C dL_law_33 (by omega) (by omega) (by omega) (by simp [q]) (by decide) (law_3 hG hM hdj hll C CM NN hX hbl hbA hN hwf hB hi14 kk)
      · exact t2n_tabIn (tgt := 600) (off := 567) C dL_law_33 (by omega) (by omega) (by omega) (by simp [q]) (by decide) (law_4 hG hM hdj hll C CM NN hX hbl hbA hN hwf hB hi14 kk)
      · exact t2n_tabIn (tgt := 623) (off := 590) C dL_law_33 (by omega) (by omega) (by omega) (by simp [q]) (by decide) (law_5 hG hM hdj hll C CM NN hX hbl hbA hN hwf hB hi14 kk)
      · exact t2n_tabIn (tgt := 656) (off := 623) C dL_law_33 (by omega) (by omega) (by omega) (by simp [q]) (by decide) (law_6 hG hM hdj hll C CM NN hX hbl hbA hN hwf hB hi14 kk)
      · exact t2n_tabIn (tgt := 669) (off := 636) C dL_law_33 (by omega) (by omega) (by omega) (by simp [q]) (by decide) (law_7 hG hM hdj hll C CM NN hX hbl hbA hN hwf hB hi14 kk)
      · exact t2n_tabIn (tgt := 692) (off := 659) C dL_law_33 (by omega) (by omega) (by omega) (by simp [q]) (by decide) (law_8 hG hM hdj hll C CM NN hX hbl hbA hN hwf hB hi14 kk)
      · exact t2n_tabIn (tgt := 705) (off := 672) C dL_law_33 (by omega) (by omega) (by omega) (by simp [q]) (by decide) (law_9 hG hM hdj hll C CM NN hX hbl hbA hN hwf hB hi14 kk)
      · exact t2n_tabIn (tgt := 718) (off := 685) C dL_law_33 (by omega) (by omega) (by omega) (by simp [q]) (by decide) (law_10 hG hM hdj hll C CM NN hX hbl hbA hN hwf hB hi14 kk)
      · exact t2n_tabIn (tgt := 741) (off := 708) C dL_law_33 (by omega) (by omega) (by omega) (by simp [q]) (by decide) (law_11 hG hM hdj hll C CM NN hX hbl hbA hN hwf hB hi14 kk)
      · exact t2n_tabIn (tgt := 774) (off := 741) C dL_law_33 (by omega) (by omega) (by omega) (by simp [q]) (by decide) (law_12 hG hM hdj hll C CM NN hX hbl hbA hN hwf hB hi14 kk)
      · exact t2n_tabIn (tgt := 807) (off := 774) C dL_law_33 (by omega) (by omega) (by omega) (by simp [q]) (by decide) (law_13 hG hM hdj hll C CM NN hX hbl hbA hN hwf hB hi14 kk)
      · exact t2n_tabIn (tgt := 850) (off := 817) C dL_law_33 (by omega) (by omega) (by omega) (by simp [q]) (by decide) (law_14 hG hM hdj hll C CM NN hX hbl hbA hN hwf hB hi14 kk)
      · exact t2n_tabIn (tgt := 873) (off := 840) C dL_law_33 (by omega) (by omega) (by omega) (by simp [q]) (by decide) (law_15 hG hM hdj hll C CM NN hX hbl hbA hN hwf hB hi14 kk)
      · exact t2n_tabIn (tgt := 896) (off := 863) C dL_law_33 (by omega) (by omega) (by omega) (by simp [q]) (by decide) (law_16 hG hM hdj hll C CM NN hX hbl hbA hN hwf hB hi14 kk)
      · exact t2n_tabIn (tgt := 919) (off := 886) C dL_law_33 (by omega) (by omega) (by omega) (by simp [q]) (by decide) (law_17 hG hM hdj hll C CM NN hX hbl hbA hN hwf hB hi14 kk)
      · exact t2n_tabOut (tgt := 942) C dL_law_33 (by omega) (by omega) (by decide) (kk Sc Sm (BS_up hB (by omega)))
