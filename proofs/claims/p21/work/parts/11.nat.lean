/-! rows over natural numbers: nI n, lN n, and bI b for what is 0 or 1 -/
def bI (b : Bool) : Int32 := if b then 1 else 0
theorem bI_t : bI true = 1 := rfl
theorem bI_f : bI false = 0 := rfl
theorem bI_0 (b : Bool) : bI b = 0 ↔ b = false := by cases b <;> decide
theorem bI_n (b : Bool) : bI b = nI (if b then 1 else 0) := by cases b <;> rfl
theorem bI_nar (b : Bool) : narrow .boolean (.int (bI b)) = .int (bI b) := by cases b <;> rfl
theorem bI_fit (b : Bool) : fits .boolean (.int (bI b)) = true := by cases b <;> rfl
theorem bI_vp (b : Bool) : vp_nar .boolean (bI b) = bI b := by cases b <;> rfl
theorem nI_or (a b : Nat) : nI a ||| nI b = nI (a ||| b) := by
  apply Int32.toBitVec_inj.mp
  apply BitVec.eq_of_toNat_eq
  simp [nI, Int32.toBitVec_or, BitVec.toNat_or, Nat.or_mod_two_pow]
theorem nI_and (a b : Nat) : nI a &&& nI b = nI (a &&& b) := by
  apply Int32.toBitVec_inj.mp
  apply BitVec.eq_of_toNat_eq
  simp [nI, Int32.toBitVec_and, BitVec.toNat_and, Nat.and_mod_two_pow]
theorem nI_xor (a b : Nat) : nI a ^^^ nI b = nI (a ^^^ b) := by
  apply Int32.toBitVec_inj.mp
  apply BitVec.eq_of_toNat_eq
  simp [nI, Int32.toBitVec_xor, BitVec.toNat_xor, Nat.xor_mod_two_pow]
theorem nI_mod (a : Nat) : nI (a % 2 ^ 32) = nI a := by
  apply Int32.toBitVec_inj.mp
  apply BitVec.eq_of_toNat_eq
  simp [nI]
theorem lN_or (a b : Nat) : lN a ||| lN b = lN (a ||| b) := by
  apply Int64.toBitVec_inj.mp
  apply BitVec.eq_of_toNat_eq
  simp [lN, Int64.toBitVec_or, BitVec.toNat_or, Nat.or_mod_two_pow]
theorem lN_and (a b : Nat) : lN a &&& lN b = lN (a &&& b) := by
  apply Int64.toBitVec_inj.mp
  apply BitVec.eq_of_toNat_eq
  simp [lN, Int64.toBitVec_and, BitVec.toNat_and, Nat.and_mod_two_pow]
theorem lN_xor (a b : Nat) : lN a ^^^ lN b = lN (a ^^^ b) := by
  apply Int64.toBitVec_inj.mp
  apply BitVec.eq_of_toNat_eq
  simp [lN, Int64.toBitVec_xor, BitVec.toNat_xor, Nat.xor_mod_two_pow]
theorem lN_mod (a : Nat) : lN (a % 2 ^ 64) = lN a := by
  apply Int64.toBitVec_inj.mp
  apply BitVec.eq_of_toNat_eq
  simp [lN]
theorem lN_inj {a b : Nat} (ha : a < 2 ^ 64) (hb : b < 2 ^ 64) : lN a = lN b ↔ a = b := by
  constructor
  · intro h
    have h1 := congrArg (fun x : Int64 => x.toBitVec.toNat) h
    simp [lN] at h1
    omega
  · rintro rfl; rfl
theorem nI_inj {a b : Nat} (ha : a < 2 ^ 32) (hb : b < 2 ^ 32) : nI a = nI b ↔ a = b := by
  constructor
  · intro h
    have h1 := congrArg (fun x : Int32 => x.toBitVec.toNat) h
    simp [nI] at h1
    omega
  · rintro rfl; rfl
theorem nI_all (x : Int32) : ∃ n : Nat, n < 2 ^ 32 ∧ x = nI n := by
  refine ⟨x.toBitVec.toNat, x.toBitVec.isLt, ?_⟩
  apply Int32.toBitVec_inj.mp
  apply BitVec.eq_of_toNat_eq
  simp [nI]
theorem lN_all (x : Int64) : ∃ n : Nat, n < 2 ^ 64 ∧ x = lN n := by
  refine ⟨x.toBitVec.toNat, x.toBitVec.isLt, ?_⟩
  apply Int64.toBitVec_inj.mp
  apply BitVec.eq_of_toNat_eq
  simp [lN]
theorem nI_toNat (n : Nat) : (nI n).toBitVec.toNat = n % 2 ^ 32 := by simp [nI]
theorem lN_toNat (n : Nat) : (lN n).toBitVec.toNat = n % 2 ^ 64 := by simp [lN]
theorem nI_shl (a k : Nat) (hk : k < 32) : nI a <<< (nI k &&& 31) = nI (a * 2 ^ k) := by
  apply Int32.toBitVec_inj.mp
  apply BitVec.eq_of_toNat_eq
  have hs : ∀ k, k < 32 → ((nI k &&& 31).toBitVec.smod 32).toNat = k := by decide +kernel
  rw [pk_shl _ _ k (hs k hk), nI_toNat, nI_toNat, Nat.mod_mul_mod]
theorem nI_shr {a : Nat} (ha : a < 2 ^ 31) (k : Nat) (hk : k < 32) : nI a >>> (nI k &&& 31) = nI (a / 2 ^ k) := by
  have hs : ∀ k, k < 32 → ((nI k &&& 31).toBitVec.smod 32).toNat = k := by decide +kernel
  exact pk_shrN ha _ k (hs k hk)
theorem lN_c : ∀ k, k < 64 → ((nI k).toInt64 &&& 63).toBitVec.smod 64 = BitVec.ofNat 64 k := by decide +kernel
theorem lN_cu : ∀ k, k < 64 → ((nI k).toInt64.toUInt64 &&& Int64.toUInt64 63) = UInt64.ofNat k := by decide +kernel
theorem lN_shl (a k : Nat) (hk : k < 64) : lN a <<< ((nI k).toInt64 &&& 63) = lN (a * 2 ^ k) := by
  apply Int64.toBitVec_inj.mp
  apply BitVec.eq_of_toNat_eq
  rw [Int64.toBitVec_shiftLeft, lN_c k hk]
  simp only [BitVec.shiftLeft_eq', BitVec.toNat_ofNat, BitVec.toNat_shiftLeft, lN_toNat, Nat.shiftLeft_eq]
  rw [Nat.mod_eq_of_lt (show k < 2 ^ 64 by omega), Nat.mod_mul_mod]
theorem lN_ushr {a : Nat} (ha : a < 2 ^ 64) (k : Nat) (hk : k < 64) : ((lN a).toUInt64 >>> ((nI k).toInt64.toUInt64 &&& Int64.toUInt64 63)).toInt64 = lN (a / 2 ^ k) := by
  rw [lN_cu k hk]
  apply Int64.toBitVec_inj.mp
  apply BitVec.eq_of_toNat_eq
  have h1 : ((lN a).toUInt64 >>> UInt64.ofNat k).toInt64.toBitVec.toNat = ((lN a).toUInt64 >>> UInt64.ofNat k).toNat := rfl
  rw [h1, UInt64.toNat_shiftRight, lN_toNat]
  have h2 : (lN a).toUInt64.toNat = a := by
    show (lN a).toBitVec.toNat = a
    rw [lN_toNat, Nat.mod_eq_of_lt ha]
  have h3 : (UInt64.ofNat k).toNat = k := by
    rw [UInt64.toNat_ofNat_of_lt']
    exact Nat.lt_of_lt_of_le hk (by decide)
  rw [h2, h3, Nat.mod_eq_of_lt hk, Nat.shiftRight_eq_div_pow, Nat.mod_eq_of_lt]
  exact Nat.lt_of_le_of_lt (Nat.div_le_self _ _) ha
theorem lN_shr {a : Nat} (ha : a < 2 ^ 63) (k : Nat) (hk : k < 64) : lN a >>> ((nI k).toInt64 &&& 63) = lN (a / 2 ^ k) := by
  apply Int64.toBitVec_inj.mp
  rw [Int64.toBitVec_shiftRight, lN_c k hk]
  simp only [BitVec.sshiftRight_eq', BitVec.toNat_ofNat]
  rw [Nat.mod_eq_of_lt (show k < 2 ^ 64 by omega), BitVec.sshiftRight_eq_of_msb_false]
  · apply BitVec.eq_of_toNat_eq
    rw [BitVec.toNat_ushiftRight, lN_toNat, lN_toNat, Nat.shiftRight_eq_div_pow, Nat.mod_eq_of_lt (by omega), Nat.mod_eq_of_lt]
    exact Nat.lt_of_le_of_lt (Nat.div_le_self _ _) (by omega)
  · rw [BitVec.msb_eq_decide]
    rw [lN_toNat]
    simp
    omega
theorem nI_andm {n : Nat} (k : Nat) (hk : k ≤ 31) : nI n &&& nI (2 ^ k - 1) = nI (n % 2 ^ k) := by
  rw [nI_and, Nat.and_two_pow_sub_one_eq_mod]
theorem lN_andm {n : Nat} (k : Nat) : lN n &&& lN (2 ^ k - 1) = lN (n % 2 ^ k) := by
  rw [lN_and, Nat.and_two_pow_sub_one_eq_mod]
theorem lN_i32 (n : Nat) : (lN n).toInt32 = nI n := lN_i n
theorem nI_i64 {n : Nat} (h : n < 2 ^ 31) : (nI n).toInt64 = lN n := nI_l h
theorem nI_neg {n : Nat} (h : 2 ^ 31 ≤ n) (h2 : n < 2 ^ 32) : nI n < 0 := by
  rw [Int32.lt_iff_toInt_lt, Int32.toInt_zero]
  have : (nI n).toInt = (n : Int) - 2 ^ 32 := by
    show (nI n).toBitVec.toInt = _
    rw [BitVec.toInt_eq_toNat_cond, nI_toNat, Nat.mod_eq_of_lt h2]
    split
    · omega
    · omega
  rw [this]
  omega
theorem nI_negle {n m : Nat} (h : 2 ^ 31 ≤ n) (h2 : n < 2 ^ 32) (hm : m < 2 ^ 31) : nI n < nI m := by
  have h3 := nI_neg h h2
  rw [Int32.lt_iff_toInt_lt, Int32.toInt_zero] at h3
  rw [Int32.lt_iff_toInt_lt, nI_toInt hm]
  omega
theorem tw_n32 : (nI 0 : Int32) = 0 := rfl
section NR
variable {G : tw_G} {X : tw_X} {S : tw_S} {L L' : List (Nat × Value)} {pc : Nat} {st : List Value} {cc : ByteArray} {own : String}
theorem tn_icmp_eq {a b : Nat} {off : Int} {tgt : Nat} (C : tw_C G X cc own) (hd : decode cc pc = .ok (.if_icmp .eq off, 3)) (ht : (pc : Int) + off = (tgt : Int)) (ha : a < 2 ^ 31) (hb : b < 2 ^ 31) (kt : a = b → TW G X S L tgt st) (kf : ¬ a = b → TW G X S L (pc + 3) st) : TW G X S L pc (.int (nI b) :: .int (nI a) :: st) := tw_icmp_eq C hd ht (fun c => kt ((nI_eq ha hb).mp c)) (fun c => kf ((not_congr (nI_eq ha hb)).mp c))
theorem tn_icmp_ne {a b : Nat} {off : Int} {tgt : Nat} (C : tw_C G X cc own) (hd : decode cc pc = .ok (.if_icmp .ne off, 3)) (ht : (pc : Int) + off = (tgt : Int)) (ha : a < 2 ^ 31) (hb : b < 2 ^ 31) (kt : ¬ a = b → TW G X S L tgt st) (kf : a = b → TW G X S L (pc + 3) st) : TW G X S L pc (.int (nI b) :: .int (nI a) :: st) := tw_icmp_ne C hd ht (fun c => kt ((not_congr (nI_eq ha hb)).mp c)) (fun c => kf ((nI_eq ha hb).mp c))
theorem tn_icmp_lt {a b : Nat} {off : Int} {tgt : Nat} (C : tw_C G X cc own) (hd : decode cc pc = .ok (.if_icmp .lt off, 3)) (ht : (pc : Int) + off = (tgt : Int)) (ha : a < 2 ^ 31) (hb : b < 2 ^ 31) (kt : a < b → TW G X S L tgt st) (kf : ¬ a < b → TW G X S L (pc + 3) st) : TW G X S L pc (.int (nI b) :: .int (nI a) :: st) := tw_icmp_lt C hd ht (fun c => kt ((nI_ltI ha hb).mp c)) (fun c => kf ((not_congr (nI_ltI ha hb)).mp c))
theorem tn_icmp_ge {a b : Nat} {off : Int} {tgt : Nat} (C : tw_C G X cc own) (hd : decode cc pc = .ok (.if_icmp .ge off, 3)) (ht : (pc : Int) + off = (tgt : Int)) (ha : a < 2 ^ 31) (hb : b < 2 ^ 31) (kt : b ≤ a → TW G X S L tgt st) (kf : ¬ b ≤ a → TW G X S L (pc + 3) st) : TW G X S L pc (.int (nI b) :: .int (nI a) :: st) := tw_icmp_ge C hd ht (fun c => kt ((nI_leI hb ha).mp c)) (fun c => kf ((not_congr (nI_leI hb ha)).mp c))
theorem tn_icmp_gt {a b : Nat} {off : Int} {tgt : Nat} (C : tw_C G X cc own) (hd : decode cc pc = .ok (.if_icmp .gt off, 3)) (ht : (pc : Int) + off = (tgt : Int)) (ha : a < 2 ^ 31) (hb : b < 2 ^ 31) (kt : b < a → TW G X S L tgt st) (kf : ¬ b < a → TW G X S L (pc + 3) st) : TW G X S L pc (.int (nI b) :: .int (nI a) :: st) := tw_icmp_gt C hd ht (fun c => kt ((nI_ltI hb ha).mp c)) (fun c => kf ((not_congr (nI_ltI hb ha)).mp c))
theorem tn_icmp_le {a b : Nat} {off : Int} {tgt : Nat} (C : tw_C G X cc own) (hd : decode cc pc = .ok (.if_icmp .le off, 3)) (ht : (pc : Int) + off = (tgt : Int)) (ha : a < 2 ^ 31) (hb : b < 2 ^ 31) (kt : a ≤ b → TW G X S L tgt st) (kf : ¬ a ≤ b → TW G X S L (pc + 3) st) : TW G X S L pc (.int (nI b) :: .int (nI a) :: st) := tw_icmp_le C hd ht (fun c => kt ((nI_leI ha hb).mp c)) (fun c => kf ((not_congr (nI_leI ha hb)).mp c))
theorem tn_if_eq {a : Nat} {off : Int} {tgt : Nat} (C : tw_C G X cc own) (hd : decode cc pc = .ok (.ifCond .eq off, 3)) (ht : (pc : Int) + off = (tgt : Int)) (ha : a < 2 ^ 31) (kt : a = 0 → TW G X S L tgt st) (kf : ¬ a = 0 → TW G X S L (pc + 3) st) : TW G X S L pc (.int (nI a) :: st) := tw_if_eq C hd ht (fun c => kt ((nI_eq ha (by decide : 0 < 2 ^ 31)).mp c)) (fun c => kf (fun h => c (h ▸ rfl)))
theorem tn_if_ne {a : Nat} {off : Int} {tgt : Nat} (C : tw_C G X cc own) (hd : decode cc pc = .ok (.ifCond .ne off, 3)) (ht : (pc : Int) + off = (tgt : Int)) (ha : a < 2 ^ 31) (kt : ¬ a = 0 → TW G X S L tgt st) (kf : a = 0 → TW G X S L (pc + 3) st) : TW G X S L pc (.int (nI a) :: st) := tw_if_ne C hd ht (fun c => kt (fun h => c (h ▸ rfl))) (fun c => kf ((nI_eq ha (by decide : 0 < 2 ^ 31)).mp c))
theorem tn_if_lt {a : Nat} {off : Int} {tgt : Nat} (C : tw_C G X cc own) (hd : decode cc pc = .ok (.ifCond .lt off, 3)) (ht : (pc : Int) + off = (tgt : Int)) (ha : a < 2 ^ 31) (kt : False → TW G X S L tgt st) (kf : True → TW G X S L (pc + 3) st) : TW G X S L pc (.int (nI a) :: st) := tw_if_lt C hd ht (fun c => kt (nI_pos ha c)) (fun c => kf (trivial))
theorem tn_if_ge {a : Nat} {off : Int} {tgt : Nat} (C : tw_C G X cc own) (hd : decode cc pc = .ok (.ifCond .ge off, 3)) (ht : (pc : Int) + off = (tgt : Int)) (ha : a < 2 ^ 31) (kt : True → TW G X S L tgt st) (kf : False → TW G X S L (pc + 3) st) : TW G X S L pc (.int (nI a) :: st) := tw_if_ge C hd ht (fun c => kt (trivial)) (fun c => kf (c (nI_pos' ha)))
theorem tn_if_gt {a : Nat} {off : Int} {tgt : Nat} (C : tw_C G X cc own) (hd : decode cc pc = .ok (.ifCond .gt off, 3)) (ht : (pc : Int) + off = (tgt : Int)) (ha : a < 2 ^ 31) (kt : 0 < a → TW G X S L tgt st) (kf : a = 0 → TW G X S L (pc + 3) st) : TW G X S L pc (.int (nI a) :: st) := tw_if_gt C hd ht (fun c => kt (Nat.pos_of_ne_zero fun h => absurd c (h ▸ by decide))) (fun c => kf (Nat.le_zero.mp (Nat.not_lt.mp fun h => c ((nI_ltI (by decide : 0 < 2 ^ 31) ha).mpr h))))
theorem tn_if_le {a : Nat} {off : Int} {tgt : Nat} (C : tw_C G X cc own) (hd : decode cc pc = .ok (.ifCond .le off, 3)) (ht : (pc : Int) + off = (tgt : Int)) (ha : a < 2 ^ 31) (kt : a = 0 → TW G X S L tgt st) (kf : 0 < a → TW G X S L (pc + 3) st) : TW G X S L pc (.int (nI a) :: st) := tw_if_le C hd ht (fun c => kt (Nat.le_zero.mp (Nat.not_lt.mp fun h => nI_nle h ha c))) (fun c => kf (Nat.pos_of_ne_zero fun h => c (h ▸ by decide)))
theorem tb_if_eq {b : Bool} {off : Int} {tgt : Nat} (C : tw_C G X cc own) (hd : decode cc pc = .ok (.ifCond .eq off, 3)) (ht : (pc : Int) + off = (tgt : Int)) (kt : b = false → TW G X S L tgt st) (kf : b = true → TW G X S L (pc + 3) st) : TW G X S L pc (.int (bI b) :: st) := tw_if_eq C hd ht (fun c => kt ((bI_0 b).mp c)) (fun c => kf (by cases b with | true => rfl | false => exact absurd rfl c))
theorem tb_if_ne {b : Bool} {off : Int} {tgt : Nat} (C : tw_C G X cc own) (hd : decode cc pc = .ok (.ifCond .ne off, 3)) (ht : (pc : Int) + off = (tgt : Int)) (kt : b = true → TW G X S L tgt st) (kf : b = false → TW G X S L (pc + 3) st) : TW G X S L pc (.int (bI b) :: st) := tw_if_ne C hd ht (fun c => kt (by cases b with | true => rfl | false => exact absurd rfl c)) (fun c => kf ((bI_0 b).mp c))
theorem lg_cmp_0 (x y : Int64) : lg_cmp x y = 0 ↔ x = y := by
  unfold lg_cmp
  simp only [gt_iff_lt, Int64.lt_iff_toInt_lt, ← Int64.toInt_inj]
  repeat' split
  · constructor
    · intro h; cases h
    · intro h; omega
  · constructor
    · intro _; assumption
    · intro _; rfl
  · constructor
    · intro h; cases h
    · intro h; omega
theorem tl_if_eq {a b : Nat} {off : Int} {tgt : Nat} (C : tw_C G X cc own) (hd : decode cc pc = .ok (.ifCond .eq off, 3)) (ht : (pc : Int) + off = (tgt : Int)) (ha : a < 2 ^ 64) (hb : b < 2 ^ 64) (kt : a = b → TW G X S L tgt st) (kf : ¬ a = b → TW G X S L (pc + 3) st) : TW G X S L pc (.int (lg_cmp (lN a) (lN b)) :: st) := tw_if_eq C hd ht (fun c => kt ((lN_inj ha hb).mp ((lg_cmp_0 _ _).mp c))) (fun c => kf (fun h => c ((lg_cmp_0 _ _).mpr (h ▸ rfl))))
theorem tl_if_ne {a b : Nat} {off : Int} {tgt : Nat} (C : tw_C G X cc own) (hd : decode cc pc = .ok (.ifCond .ne off, 3)) (ht : (pc : Int) + off = (tgt : Int)) (ha : a < 2 ^ 64) (hb : b < 2 ^ 64) (kt : ¬ a = b → TW G X S L tgt st) (kf : a = b → TW G X S L (pc + 3) st) : TW G X S L pc (.int (lg_cmp (lN a) (lN b)) :: st) := tw_if_ne C hd ht (fun c => kt (fun h => c ((lg_cmp_0 _ _).mpr (h ▸ rfl)))) (fun c => kf ((lN_inj ha hb).mp ((lg_cmp_0 _ _).mp c)))
theorem tn_lookup {a : Nat} {dflt : Int} {ps : Array (Int × Int)} {len : Nat} {off : Int} {tgt : Nat} (C : tw_C G X cc own) (hd : decode cc pc = .ok (.lookupswitch dflt ps, len)) (hp : (ps.toList.zip (ps.toList.drop 1)).all (fun (a, next) => a.1 < next.1) = true) (ha : a < 2 ^ 31) (ho : Op.lookupswitch.offset ps.toList dflt (a : Int) = off) (ht : (pc : Int) + off = (tgt : Int)) (k : TW G X S L tgt st) : TW G X S L pc (.int (nI a) :: st) := tw_lookup C hd hp (by rw [nI_toInt ha]; exact ho) ht k
theorem tn_tabIn {a : Nat} {dflt lo hi : Int} {offs : Array Int} {len : Nat} {off : Int} {tgt : Nat} (C : tw_C G X cc own) (hd : decode cc pc = .ok (.tableswitch dflt lo hi offs, len)) (ha : a < 2 ^ 31) (h1 : ¬ (a : Int) < lo) (h2 : ¬ hi < (a : Int)) (ho : offs[((a : Int) - lo).toNat]? = some off) (ht : (pc : Int) + off = (tgt : Int)) (k : TW G X S L tgt st) : TW G X S L pc (.int (nI a) :: st) := tw_tabIn C hd (by rw [nI_toInt ha]; exact h1) (by rw [nI_toInt ha]; exact h2) (by rw [nI_toInt ha]; exact ho) ht k
theorem tn_tabOut {a : Nat} {dflt lo hi : Int} {offs : Array Int} {len : Nat} {tgt : Nat} (C : tw_C G X cc own) (hd : decode cc pc = .ok (.tableswitch dflt lo hi offs, len)) (ha : a < 2 ^ 31) (h : (a : Int) < lo ∨ hi < (a : Int)) (ht : (pc : Int) + dflt = (tgt : Int)) (k : TW G X S L tgt st) : TW G X S L pc (.int (nI a) :: st) := tw_tabOut C hd (by rw [nI_toInt ha]; exact h) ht k
end NR
