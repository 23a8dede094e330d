/-! eight bytes of the tape against a number -/
def eqB (V : Nat) (xs : List Nat) (a j : Nat) : Bool := decide (V / 2 ^ (64 - 8 * j) = nb xs a j)
theorem eqB_0 {V : Nat} (h : V < 2 ^ 64) (xs : List Nat) (a : Nat) : eqB V xs a 0 = true := decide_eq_true (Nat.div_eq_of_lt h)
theorem eqB_8 (V : Nat) (xs : List Nat) (a : Nat) : eqB V xs a 8 = decide (V = nb xs a 8) := by
  unfold eqB
  rw [show (2 : Nat) ^ (64 - 8 * 8) = 1 from rfl, Nat.div_one]
theorem eqB_s {V : Nat} {xs : List Nat} (hb : ∀ x ∈ xs, x < 256) (a : Nat) {j : Nat} (hj : j < 8) : eqB V xs a (j + 1) = (eqB V xs a j && decide (V / 2 ^ (56 - 8 * j) % 256 = xs.getD (a + j) 0)) := by
  unfold eqB
  rw [← Bool.decide_and]
  have e1 : 64 - 8 * (j + 1) = 56 - 8 * j := by omega
  have e2 : (2 : Nat) ^ (64 - 8 * j) = 2 ^ (56 - 8 * j) * 256 := by rw [show 64 - 8 * j = (56 - 8 * j) + 8 by omega, Nat.pow_add]
  rw [e1, e2, ← Nat.div_div_eq_div_mul, nb]
  have h1 := gD_lt hb (a + j)
  exact decide_eq_decide.mpr (by omega)
theorem short_iff {xs : List Nat} (hb : ∀ x ∈ xs, x < 256) (b : Nat) : nb xs b 8 / 2 ^ 16 = 16776704 ↔ nb xs b 3 = 0 ∧ xs.getD (b + 3) 0 = 255 ∧ xs.getD (b + 4) 0 = 254 ∧ xs.getD (b + 5) 0 = 0 := by
  have h1 : nb xs b 8 = nb xs b 6 * 256 ^ 2 + nb xs (b + 6) 2 := nb_ad xs b 6 2
  have h2 : nb xs b 6 = nb xs b 3 * 256 ^ 3 + nb xs (b + 3) 3 := nb_ad xs b 3 3
  have h3 : nb xs (b + 3) 3 = ((0 * 256 + xs.getD (b + 3) 0) * 256 + xs.getD (b + 4) 0) * 256 + xs.getD (b + 5) 0 := rfl
  have h4 := nb_lt hb (b + 6) 2
  have h5 := gD_lt hb (b + 3)
  have h6 := gD_lt hb (b + 4)
  have h7 := gD_lt hb (b + 5)
  simp only [Nat.reducePow] at h1 h2 h4 ⊢
  omega
theorem c_X11_contextOf {G : tw_G} (hM : tw_mG G) {S : tw_S} {K : kN} (hK : mK S K) {tp : List Nat} (hT : LA (tw_A S 118) tp) (htb : ∀ x ∈ tp, x < 256) (htl : tp.length ≤ 640) {a : Nat} (ha : a + 8 ≤ tp.length) : tw_M G yX11_contextOf cX11_contextOf 5 (some .int) 0 0 [.ref (tw_ad G 114), .int (nI a)] S ri_I (fun v S' => v = lsI (lst K (nb tp a 8) 0 16) ∧ S = S') := by
  refine tw_M.of (L := [(0, .ref (tw_ad G 114)), (1, .int (nI a))]) (by decide) (Nat.le_of_ble_eq_true rfl) rfl (fun X C N Q => ?_)
  have C : tw_C G X cX11_contextOf RX11 := C
  have loop : ∀ (d i : Nat) (_ : i + d = 16) (_ : lst K (nb tp a 8) 0 16 = lst K (nb tp a 8) i d), TW G X S [(2, .int (nI i)), (0, .ref (tw_ad G 114)), (1, .int (nI a))] 2 [] := by
    intro d
    induction d with
    | zero =>
      intro i hi hls
      refine tw_iload_n C dX11_contextOf_2 0 rfl ?_
      refine tw_bipush C dX11_contextOf_3 (v := nI 16) (by decide) ?_
      refine tn_icmp_ge C dX11_contextOf_5 (tgt := 77) (by decide) (by omega) (by omega) (fun c1 => ?_) (fun c1 => ?_)
      · skip
        refine tw_iconst C dX11_contextOf_77 (v := (-1)) (by decide) ?_
        exact tw_ireturn C Q dX11_contextOf_78 rfl rfl rfl ⟨by rw [hls]; rfl, rfl⟩
      · exact absurd c1 (by omega)
    | succ d ih =>
      intro i hi hls
      have inner : ∀ (dj : Nat) (j : Nat) (_ : j + dj = 8), TW G X S [(4, .int (nI j)), (3, .int (bI (kT K i && eqB (kV K i) tp a j))), (2, .int (nI i)), (0, .ref (tw_ad G 114)), (1, .int (nI a))] 18 [] := by
        intro dj
        induction dj with
        | zero =>
          intro j hj
          refine tw_iload C dX11_contextOf_18 0 rfl ?_
          refine tw_bipush C dX11_contextOf_20 (v := nI 8) (by decide) ?_
          refine tn_icmp_ge C dX11_contextOf_22 (tgt := 65) (by decide) (by omega) (by omega) (fun c1 => ?_) (fun c1 => ?_)
          · skip
            refine tw_iload_n C dX11_contextOf_65 1 rfl ?_
            refine tb_if_eq C dX11_contextOf_66 (tgt := 71) (by decide) (fun cs => ?_) (fun cs => ?_)
            · skip
              refine tw_iinc (k := 2) (v := nI (i + 1)) (L' := [(2, .int (nI (i + 1))), (4, .int (nI j)), (3, .int (bI (kT K i && eqB (kV K i) tp a j))), (0, .ref (tw_ad G 114)), (1, .int (nI a))]) C N dX11_contextOf_71 rfl (tn_inc1 _) (by decide) rfl ?_
              refine tw_goto C dX11_contextOf_74 (tgt := 2) (by decide) ?_
              refine TW.c (L' := [(2, .int (nI (i + 1))), (0, .ref (tw_ad G 114)), (1, .int (nI a))]) (by simp) ?_
              exact ih (i + 1) (by omega) (by rw [hls, lst, if_neg (by rw [show j = 8 by omega, eqB_8, Bool.and_eq_false_iff, decide_eq_false_iff_not] at cs; rintro ⟨h1, h2⟩; exact cs.elim (fun c => by rw [h1] at c; exact absurd c (by decide)) (fun c => c h2))])
            · skip
              refine tw_iload_n C dX11_contextOf_69 2 rfl ?_
              exact tw_ireturn C Q dX11_contextOf_70 rfl rfl rfl ⟨by rw [hls, lst, if_pos (by rw [show j = 8 by omega, eqB_8, Bool.and_eq_true, decide_eq_true_eq] at cs; exact cs)]; rfl, rfl⟩
          · exact absurd c1 (by omega)
        | succ dj ihj =>
          intro j hj
          refine tw_iload C dX11_contextOf_18 0 rfl ?_
          refine tw_bipush C dX11_contextOf_20 (v := nI 8) (by decide) ?_
          refine tn_icmp_ge C dX11_contextOf_22 (tgt := 65) (by decide) (by omega) (by omega) (fun c1 => ?_) (fun c1 => ?_)
          · exact absurd c1 (by omega)
          refine tw_iload_n C dX11_contextOf_25 1 rfl ?_
          refine tb_if_eq C dX11_contextOf_26 (tgt := 57) (by decide) (fun cz => ?_) (fun cz => ?_)
          · skip
            refine tw_iconst C dX11_contextOf_57 (v := nI 0) (by decide) ?_
            refine tw_istore_n (L' := [(3, .int (nI 0)), (4, .int (nI j)), (2, .int (nI i)), (0, .ref (tw_ad G 114)), (1, .int (nI a))]) C N dX11_contextOf_58 rfl (by decide) rfl ?_
            refine tw_iinc (k := 1) (v := nI (j + 1)) (L' := [(4, .int (nI (j + 1))), (3, .int (nI 0)), (2, .int (nI i)), (0, .ref (tw_ad G 114)), (1, .int (nI a))]) C N dX11_contextOf_59 rfl (tn_inc1 _) (by decide) rfl ?_
            refine tw_goto C dX11_contextOf_62 (tgt := 18) (by decide) ?_
            have e1 : bI (kT K i && eqB (kV K i) tp a (j + 1)) = nI 0 := by rw [eqB_s htb a (by omega), ← Bool.and_assoc]; first | (rw [cz]; rfl) | (rw [hq0, Bool.and_false]; rfl)
            refine TW.c (L' := [(4, .int (nI (j + 1))), (3, .int (bI (kT K i && eqB (kV K i) tp a (j + 1)))), (2, .int (nI i)), (0, .ref (tw_ad G 114)), (1, .int (nI a))]) (by rw [e1]; simp) ?_
            exact ihj (j + 1) (by omega)
          · skip
            refine tw_aload_n C dX11_contextOf_29 3 rfl ?_
            refine tw_getR (q := 116) (k := 1) C dX11_contextOf_30 fc_X11 sh_114 (hM 114 (by decide) (by decide)) rfl (by decide) wd_112 ?_
            refine tw_bipush C dX11_contextOf_33 (v := nI 8) (by decide) ?_
            refine tw_iload_n C dX11_contextOf_35 2 rfl ?_
            refine tw_imul C dX11_contextOf_36 (v := nI (8 * i)) (pk_mul _ _) ?_
            refine tw_iload C dX11_contextOf_37 0 rfl ?_
            refine tw_iadd C dX11_contextOf_39 (v := nI ((8 * i) + j)) (nI_add _ _) ?_
            refine tw_iald (v := nI (kV K i / 2 ^ (56 - 8 * j) % 256)) C dX11_contextOf_40 sn_116 sa_116 (hM 116 (by decide) (by decide)) (by omega) (by decide) (hK.2.1 i j (by omega) (by omega)) ?_
            refine tw_aload_n C dX11_contextOf_41 3 rfl ?_
            refine tw_getR (q := 118) (k := 3) C dX11_contextOf_42 fc_X11 sh_114 (hM 114 (by decide) (by decide)) rfl (by decide) wd_114 ?_
            refine tw_iload_n C dX11_contextOf_45 4 rfl ?_
            refine tw_iload C dX11_contextOf_46 0 rfl ?_
            refine tw_iadd C dX11_contextOf_48 (v := nI (a + j)) (nI_add _ _) ?_
            refine tw_iald (v := nI (tp.getD (a + j) 0)) C dX11_contextOf_49 sn_118 sa_118 (hM 118 (by decide) (by decide)) (by omega) (by decide) (hT (a + j) (by omega)) ?_
            refine tn_icmp_ne C dX11_contextOf_50 (tgt := 57) (by decide) (Nat.lt_trans (Nat.mod_lt _ (by decide)) (by decide)) (Nat.lt_trans (gD_lt htb _) (by decide)) (fun cq => ?_) (fun cq => ?_)
            · have hq0 : decide (kV K i / 2 ^ (56 - 8 * j) % 256 = tp.getD (a + j) 0) = false := decide_eq_false cq
              refine tw_iconst C dX11_contextOf_57 (v := nI 0) (by decide) ?_
              refine tw_istore_n (L' := [(3, .int (nI 0)), (4, .int (nI j)), (2, .int (nI i)), (0, .ref (tw_ad G 114)), (1, .int (nI a))]) C N dX11_contextOf_58 rfl (by decide) rfl ?_
              refine tw_iinc (k := 1) (v := nI (j + 1)) (L' := [(4, .int (nI (j + 1))), (3, .int (nI 0)), (2, .int (nI i)), (0, .ref (tw_ad G 114)), (1, .int (nI a))]) C N dX11_contextOf_59 rfl (tn_inc1 _) (by decide) rfl ?_
              refine tw_goto C dX11_contextOf_62 (tgt := 18) (by decide) ?_
              have e1 : bI (kT K i && eqB (kV K i) tp a (j + 1)) = nI 0 := by rw [eqB_s htb a (by omega), ← Bool.and_assoc]; first | (rw [cz]; rfl) | (rw [hq0, Bool.and_false]; rfl)
              refine TW.c (L' := [(4, .int (nI (j + 1))), (3, .int (bI (kT K i && eqB (kV K i) tp a (j + 1)))), (2, .int (nI i)), (0, .ref (tw_ad G 114)), (1, .int (nI a))]) (by rw [e1]; simp) ?_
              exact ihj (j + 1) (by omega)
            · have hq0 : decide (kV K i / 2 ^ (56 - 8 * j) % 256 = tp.getD (a + j) 0) = true := decide_eq_true (by omega)
              refine tw_iconst C dX11_contextOf_53 (v := nI 1) (by decide) ?_
              refine tw_goto C dX11_contextOf_54 (tgt := 58) (by decide) ?_
              refine tw_istore_n (L' := [(3, .int (nI 1)), (4, .int (nI j)), (2, .int (nI i)), (0, .ref (tw_ad G 114)), (1, .int (nI a))]) C N dX11_contextOf_58 rfl (by decide) rfl ?_
              refine tw_iinc (k := 1) (v := nI (j + 1)) (L' := [(4, .int (nI (j + 1))), (3, .int (nI 1)), (2, .int (nI i)), (0, .ref (tw_ad G 114)), (1, .int (nI a))]) C N dX11_contextOf_59 rfl (tn_inc1 _) (by decide) rfl ?_
              refine tw_goto C dX11_contextOf_62 (tgt := 18) (by decide) ?_
              have e1 : bI (kT K i && eqB (kV K i) tp a (j + 1)) = nI 1 := by rw [eqB_s htb a (by omega), ← Bool.and_assoc, cz, hq0]; rfl
              refine TW.c (L' := [(4, .int (nI (j + 1))), (3, .int (bI (kT K i && eqB (kV K i) tp a (j + 1)))), (2, .int (nI i)), (0, .ref (tw_ad G 114)), (1, .int (nI a))]) (by rw [e1]; simp) ?_
              exact ihj (j + 1) (by omega)
      refine tw_iload_n C dX11_contextOf_2 0 rfl ?_
      refine tw_bipush C dX11_contextOf_3 (v := nI 16) (by decide) ?_
      refine tn_icmp_ge C dX11_contextOf_5 (tgt := 77) (by decide) (by omega) (by omega) (fun c1 => ?_) (fun c1 => ?_)
      · exact absurd c1 (by omega)
      refine tw_aload_n C dX11_contextOf_8 1 rfl ?_
      refine tw_getR (q := 115) (k := 0) C dX11_contextOf_9 fc_X11 sh_114 (hM 114 (by decide) (by decide)) rfl (by decide) wd_111 ?_
      refine tw_iload_n C dX11_contextOf_12 0 rfl ?_
      refine tw_zald (v := bI (kT K i)) C dX11_contextOf_13 sn_115 sa_115 (hM 115 (by decide) (by decide)) (by omega) (by decide) (hK.1 i (by omega)) ?_
      refine tw_istore_n (L' := [(3, .int (bI (kT K i))), (2, .int (nI i)), (0, .ref (tw_ad G 114)), (1, .int (nI a))]) C N dX11_contextOf_14 rfl (by decide) rfl ?_
      refine tw_iconst C dX11_contextOf_15 (v := nI 0) (by decide) ?_
      refine tw_istore (L' := [(4, .int (nI 0)), (3, .int (bI (kT K i))), (2, .int (nI i)), (0, .ref (tw_ad G 114)), (1, .int (nI a))]) C N dX11_contextOf_16 (i := 4) (by decide) rfl ?_
      refine TW.c (L' := [(4, .int (nI 0)), (3, .int (bI (kT K i && eqB (kV K i) tp a 0))), (2, .int (nI i)), (0, .ref (tw_ad G 114)), (1, .int (nI a))]) (by rw [eqB_0 (hK.2.2.2.1 i), Bool.and_true]; simp) ?_
      exact inner 8 0 rfl
  refine tw_iconst C dX11_contextOf_0 (v := nI 0) (by decide) ?_
  refine tw_istore_n (L' := [(2, .int (nI 0)), (0, .ref (tw_ad G 114)), (1, .int (nI a))]) C N dX11_contextOf_1 rfl (by decide) rfl ?_
  exact loop 16 0 rfl rfl
theorem c_X11_lastsOf {G : tw_G} (hM : tw_mG G) {S : tw_S} {K : kN} (hK : mK S K) {tp : List Nat} (hT : LA (tw_A S 118) tp) (htb : ∀ x ∈ tp, x < 256) (htl : tp.length ≤ 640) {a w : Nat} (ha : a + 16 ≤ tp.length) (hw : w < 2) : tw_M G yX11_lastsOf cX11_lastsOf 5 (some .int) 1 24 [.ref (tw_ad G 114), .int (nI a), .int (nI w)] S ri_I (fun v S' => v = nI (mLast K w (nb tp (a + 8) 8)) ∧ S = S') := by
  refine tw_M.of (L := [(0, .ref (tw_ad G 114)), (1, .int (nI a)), (2, .int (nI w))]) (by decide) (Nat.le_of_ble_eq_true rfl) rfl (fun X C N Q => ?_)
  have C : tw_C G X cX11_lastsOf RX11 := C
  have loop : ∀ (d : Nat) (j : Nat) (_ : j + d = 8), TW G X S [(4, .int (nI j)), (3, .int (bI (eqB (kO K w) tp (a + 8) j))), (0, .ref (tw_ad G 114)), (1, .int (nI a)), (2, .int (nI w))] 5 [] := by
    intro d
    induction d with
    | zero =>
      intro j hj
      refine tw_iload C dX11_lastsOf_5 0 rfl ?_
      refine tw_bipush C dX11_lastsOf_7 (v := nI 8) (by decide) ?_
      refine tn_icmp_ge C dX11_lastsOf_9 (tgt := 55) (by decide) (by omega) (by omega) (fun c1 => ?_) (fun c1 => ?_)
      · skip
        refine tw_iload_n C dX11_lastsOf_55 1 rfl ?_
        refine tb_if_eq C dX11_lastsOf_56 (tgt := 61) (by decide) (fun cs => ?_) (fun cs => ?_)
        · skip
          refine tw_aload_n C dX11_lastsOf_61 2 rfl ?_
          refine tw_iload_n C dX11_lastsOf_62 3 rfl ?_
          refine tw_bipush C dX11_lastsOf_63 (v := nI 8) (by decide) ?_
          refine tw_iadd C dX11_lastsOf_65 (v := nI (a + 8)) (nI_add _ _) ?_
          refine tw_iload_n C dX11_lastsOf_66 3 rfl ?_
          refine tw_bipush C dX11_lastsOf_67 (v := nI 11) (by decide) ?_
          refine tw_iadd C dX11_lastsOf_69 (v := nI (a + 11)) (nI_add _ _) ?_
          refine tw_callV (As := [.int (nI (a + 8)), .int (nI (a + 11))]) (rest := []) C N (c_X11_isZero hM (S := S) (tp := tp) hT htb htl (a := a + 8) (e := a + 11) (by omega) (by omega)) mm_X11_isZero wd_412 rfl (hM 114 (by decide) (by decide)) sh_114 rfl (by decide) rfl (Nat.le_of_ble_eq_true rfl) dX11_lastsOf_70 ?_
          rintro _ _ ⟨rfl, rfl⟩
          show TW G X S [(4, .int (nI j)), (3, .int (bI (eqB (kO K w) tp (a + 8) j))), (0, .ref (tw_ad G 114)), (1, .int (nI a)), (2, .int (nI w))] 73 [.int (bI (zB tp (a + 8) ((a + 11) - (a + 8))))]
          refine tb_if_eq C dX11_lastsOf_73 (tgt := 122) (by decide) (fun cy => ?_) (fun cy => ?_)
          · have cyF := 0
            refine tw_iconst C dX11_lastsOf_122 (v := nI 0) (by decide) ?_
            refine tw_istore (L' := [(4, .int (nI 0)), (3, .int (bI (eqB (kO K w) tp (a + 8) j))), (0, .ref (tw_ad G 114)), (1, .int (nI a)), (2, .int (nI w))]) C N dX11_lastsOf_123 (i := 4) (by decide) rfl ?_
            refine tw_iload C dX11_lastsOf_125 0 rfl ?_
            refine tn_if_eq C dX11_lastsOf_127 (tgt := 134) (by decide) (by omega) (fun c3 => ?_) (fun c3 => ?_)
            · skip
              refine tw_iconst C dX11_lastsOf_134 (v := nI 1) (by decide) ?_
              exact tw_ireturn C Q dX11_lastsOf_135 rfl rfl rfl ⟨by rw [show j = 8 by omega, eqB_8, decide_eq_false_iff_not] at cs; rw [show a + 11 - (a + 8) = 3 by omega, zB_nb, decide_eq_false_iff_not] at cy; rw [mLast, if_neg (fun h => cs h.symm), if_neg (fun h => cy ((short_iff htb _).mp h).1)], rfl⟩
            · exact absurd c3 (by decide)
          · skip
            refine tw_aload_n C dX11_lastsOf_76 2 rfl ?_
            refine tw_getR (q := 118) (k := 3) C dX11_lastsOf_77 fc_X11 sh_114 (hM 114 (by decide) (by decide)) rfl (by decide) wd_114 ?_
            refine tw_iload_n C dX11_lastsOf_80 3 rfl ?_
            refine tw_bipush C dX11_lastsOf_81 (v := nI 11) (by decide) ?_
            refine tw_iadd C dX11_lastsOf_83 (v := nI (a + 11)) (nI_add _ _) ?_
            refine tw_iald (v := nI (tp.getD (a + 8 + 3) 0)) C dX11_lastsOf_84 sn_118 sa_118 (hM 118 (by decide) (by decide)) (by omega) (by decide) (by have h0 := hT (a + 11) (by omega); exact h0) ?_
            refine tw_sipush C dX11_lastsOf_85 (v := nI 255) (by decide) ?_
            refine tn_icmp_ne C dX11_lastsOf_88 (tgt := 122) (by decide) (Nat.lt_trans (gD_lt htb _) (by decide)) (by omega) (fun c4 => ?_) (fun c4 => ?_)
            · skip
              refine tw_iconst C dX11_lastsOf_122 (v := nI 0) (by decide) ?_
              refine tw_istore (L' := [(4, .int (nI 0)), (3, .int (bI (eqB (kO K w) tp (a + 8) j))), (0, .ref (tw_ad G 114)), (1, .int (nI a)), (2, .int (nI w))]) C N dX11_lastsOf_123 (i := 4) (by decide) rfl ?_
              refine tw_iload C dX11_lastsOf_125 0 rfl ?_
              refine tn_if_eq C dX11_lastsOf_127 (tgt := 134) (by decide) (by omega) (fun c5 => ?_) (fun c5 => ?_)
              · skip
                refine tw_iconst C dX11_lastsOf_134 (v := nI 1) (by decide) ?_
                exact tw_ireturn C Q dX11_lastsOf_135 rfl rfl rfl ⟨by rw [show j = 8 by omega, eqB_8, decide_eq_false_iff_not] at cs; rw [mLast, if_neg (fun h => cs h.symm), if_neg (fun h => by have := ((short_iff htb _).mp h).2; omega)], rfl⟩
              · exact absurd c5 (by decide)
            · skip
              refine tw_aload_n C dX11_lastsOf_91 2 rfl ?_
              refine tw_getR (q := 118) (k := 3) C dX11_lastsOf_92 fc_X11 sh_114 (hM 114 (by decide) (by decide)) rfl (by decide) wd_114 ?_
              refine tw_iload_n C dX11_lastsOf_95 3 rfl ?_
              refine tw_bipush C dX11_lastsOf_96 (v := nI 12) (by decide) ?_
              refine tw_iadd C dX11_lastsOf_98 (v := nI (a + 12)) (nI_add _ _) ?_
              refine tw_iald (v := nI (tp.getD (a + 8 + 4) 0)) C dX11_lastsOf_99 sn_118 sa_118 (hM 118 (by decide) (by decide)) (by omega) (by decide) (by have h0 := hT (a + 12) (by omega); exact h0) ?_
              refine tw_sipush C dX11_lastsOf_100 (v := nI 254) (by decide) ?_
              refine tn_icmp_ne C dX11_lastsOf_103 (tgt := 122) (by decide) (Nat.lt_trans (gD_lt htb _) (by decide)) (by omega) (fun c6 => ?_) (fun c6 => ?_)
              · skip
                refine tw_iconst C dX11_lastsOf_122 (v := nI 0) (by decide) ?_
                refine tw_istore (L' := [(4, .int (nI 0)), (3, .int (bI (eqB (kO K w) tp (a + 8) j))), (0, .ref (tw_ad G 114)), (1, .int (nI a)), (2, .int (nI w))]) C N dX11_lastsOf_123 (i := 4) (by decide) rfl ?_
                refine tw_iload C dX11_lastsOf_125 0 rfl ?_
                refine tn_if_eq C dX11_lastsOf_127 (tgt := 134) (by decide) (by omega) (fun c7 => ?_) (fun c7 => ?_)
                · skip
                  refine tw_iconst C dX11_lastsOf_134 (v := nI 1) (by decide) ?_
                  exact tw_ireturn C Q dX11_lastsOf_135 rfl rfl rfl ⟨by rw [show j = 8 by omega, eqB_8, decide_eq_false_iff_not] at cs; rw [mLast, if_neg (fun h => cs h.symm), if_neg (fun h => by have := ((short_iff htb _).mp h).2; omega)], rfl⟩
                · exact absurd c7 (by decide)
              · skip
                refine tw_aload_n C dX11_lastsOf_106 2 rfl ?_
                refine tw_getR (q := 118) (k := 3) C dX11_lastsOf_107 fc_X11 sh_114 (hM 114 (by decide) (by decide)) rfl (by decide) wd_114 ?_
                refine tw_iload_n C dX11_lastsOf_110 3 rfl ?_
                refine tw_bipush C dX11_lastsOf_111 (v := nI 13) (by decide) ?_
                refine tw_iadd C dX11_lastsOf_113 (v := nI (a + 13)) (nI_add _ _) ?_
                refine tw_iald (v := nI (tp.getD (a + 8 + 5) 0)) C dX11_lastsOf_114 sn_118 sa_118 (hM 118 (by decide) (by decide)) (by omega) (by decide) (by have h0 := hT (a + 13) (by omega); exact h0) ?_
                refine tn_if_ne C dX11_lastsOf_115 (tgt := 122) (by decide) (Nat.lt_trans (gD_lt htb _) (by decide)) (fun c8 => ?_) (fun c8 => ?_)
                · skip
                  refine tw_iconst C dX11_lastsOf_122 (v := nI 0) (by decide) ?_
                  refine tw_istore (L' := [(4, .int (nI 0)), (3, .int (bI (eqB (kO K w) tp (a + 8) j))), (0, .ref (tw_ad G 114)), (1, .int (nI a)), (2, .int (nI w))]) C N dX11_lastsOf_123 (i := 4) (by decide) rfl ?_
                  refine tw_iload C dX11_lastsOf_125 0 rfl ?_
                  refine tn_if_eq C dX11_lastsOf_127 (tgt := 134) (by decide) (by omega) (fun c9 => ?_) (fun c9 => ?_)
                  · skip
                    refine tw_iconst C dX11_lastsOf_134 (v := nI 1) (by decide) ?_
                    exact tw_ireturn C Q dX11_lastsOf_135 rfl rfl rfl ⟨by rw [show j = 8 by omega, eqB_8, decide_eq_false_iff_not] at cs; rw [mLast, if_neg (fun h => cs h.symm), if_neg (fun h => by have := ((short_iff htb _).mp h).2; omega)], rfl⟩
                  · exact absurd c9 (by decide)
                · skip
                  refine tw_iconst C dX11_lastsOf_118 (v := nI 1) (by decide) ?_
                  refine tw_goto C dX11_lastsOf_119 (tgt := 123) (by decide) ?_
                  refine tw_istore (L' := [(4, .int (nI 1)), (3, .int (bI (eqB (kO K w) tp (a + 8) j))), (0, .ref (tw_ad G 114)), (1, .int (nI a)), (2, .int (nI w))]) C N dX11_lastsOf_123 (i := 4) (by decide) rfl ?_
                  refine tw_iload C dX11_lastsOf_125 0 rfl ?_
                  refine tn_if_eq C dX11_lastsOf_127 (tgt := 134) (by decide) (by omega) (fun c10 => ?_) (fun c10 => ?_)
                  · exact absurd c10 (by decide)
                  refine tw_iconst C dX11_lastsOf_130 (v := nI 2) (by decide) ?_
                  refine tw_goto C dX11_lastsOf_131 (tgt := 135) (by decide) ?_
                  exact tw_ireturn C Q dX11_lastsOf_135 rfl rfl rfl ⟨by rw [show j = 8 by omega, eqB_8, decide_eq_false_iff_not] at cs; rw [show a + 11 - (a + 8) = 3 by omega, zB_nb, decide_eq_true_eq] at cy; rw [mLast, if_neg (fun h => cs h.symm), if_pos ((short_iff htb _).mpr ⟨cy, by omega, by omega, by omega⟩)], rfl⟩
        · skip
          refine tw_iconst C dX11_lastsOf_59 (v := nI 3) (by decide) ?_
          exact tw_ireturn C Q dX11_lastsOf_60 rfl rfl rfl ⟨by rw [show j = 8 by omega, eqB_8, decide_eq_true_eq] at cs; rw [mLast, if_pos cs.symm], rfl⟩
      · exact absurd c1 (by omega)
    | succ d ih =>
      intro j hj
      refine tw_iload C dX11_lastsOf_5 0 rfl ?_
      refine tw_bipush C dX11_lastsOf_7 (v := nI 8) (by decide) ?_
      refine tn_icmp_ge C dX11_lastsOf_9 (tgt := 55) (by decide) (by omega) (by omega) (fun c1 => ?_) (fun c1 => ?_)
      · exact absurd c1 (by omega)
      refine tw_iload_n C dX11_lastsOf_12 1 rfl ?_
      refine tb_if_eq C dX11_lastsOf_13 (tgt := 47) (by decide) (fun cz => ?_) (fun cz => ?_)
      · skip
        refine tw_iconst C dX11_lastsOf_47 (v := nI 0) (by decide) ?_
        refine tw_istore_n (L' := [(3, .int (nI 0)), (4, .int (nI j)), (0, .ref (tw_ad G 114)), (1, .int (nI a)), (2, .int (nI w))]) C N dX11_lastsOf_48 rfl (by decide) rfl ?_
        refine tw_iinc (k := 1) (v := nI (j + 1)) (L' := [(4, .int (nI (j + 1))), (3, .int (nI 0)), (0, .ref (tw_ad G 114)), (1, .int (nI a)), (2, .int (nI w))]) C N dX11_lastsOf_49 rfl (tn_inc1 _) (by decide) rfl ?_
        refine tw_goto C dX11_lastsOf_52 (tgt := 5) (by decide) ?_
        have e1 : bI (eqB (kO K w) tp (a + 8) (j + 1)) = nI 0 := by rw [eqB_s htb (a + 8) (by omega)]; first | (rw [cz]; rfl) | (rw [hq0, Bool.and_false]; rfl)
        refine TW.c (L' := [(4, .int (nI (j + 1))), (3, .int (bI (eqB (kO K w) tp (a + 8) (j + 1)))), (0, .ref (tw_ad G 114)), (1, .int (nI a)), (2, .int (nI w))]) (by rw [e1]; simp) ?_
        exact ih (j + 1) (by omega)
      · skip
        refine tw_aload_n C dX11_lastsOf_16 2 rfl ?_
        refine tw_getR (q := 118) (k := 3) C dX11_lastsOf_17 fc_X11 sh_114 (hM 114 (by decide) (by decide)) rfl (by decide) wd_114 ?_
        refine tw_iload_n C dX11_lastsOf_20 3 rfl ?_
        refine tw_bipush C dX11_lastsOf_21 (v := nI 8) (by decide) ?_
        refine tw_iadd C dX11_lastsOf_23 (v := nI (a + 8)) (nI_add _ _) ?_
        refine tw_iload C dX11_lastsOf_24 0 rfl ?_
        refine tw_iadd C dX11_lastsOf_26 (v := nI ((a + 8) + j)) (nI_add _ _) ?_
        refine tw_iald (v := nI (tp.getD (a + 8 + j) 0)) C dX11_lastsOf_27 sn_118 sa_118 (hM 118 (by decide) (by decide)) (by omega) (by decide) (hT (a + 8 + j) (by omega)) ?_
        refine tw_aload_n C dX11_lastsOf_28 2 rfl ?_
        refine tw_getR (q := 117) (k := 2) C dX11_lastsOf_29 fc_X11 sh_114 (hM 114 (by decide) (by decide)) rfl (by decide) wd_113 ?_
        refine tw_bipush C dX11_lastsOf_32 (v := nI 8) (by decide) ?_
        refine tw_iload_n C dX11_lastsOf_34 4 rfl ?_
        refine tw_imul C dX11_lastsOf_35 (v := nI (8 * w)) (pk_mul _ _) ?_
        refine tw_iload C dX11_lastsOf_36 0 rfl ?_
        refine tw_iadd C dX11_lastsOf_38 (v := nI ((8 * w) + j)) (nI_add _ _) ?_
        refine tw_iald (v := nI (kO K w / 2 ^ (56 - 8 * j) % 256)) C dX11_lastsOf_39 sn_117 sa_117 (hM 117 (by decide) (by decide)) (by omega) (by decide) (hK.2.2.1 w j (by omega) (by omega)) ?_
        refine tn_icmp_ne C dX11_lastsOf_40 (tgt := 47) (by decide) (Nat.lt_trans (gD_lt htb _) (by decide)) (Nat.lt_trans (Nat.mod_lt _ (by decide)) (by decide)) (fun cq => ?_) (fun cq => ?_)
        · have hq0 : decide (kO K w / 2 ^ (56 - 8 * j) % 256 = tp.getD (a + 8 + j) 0) = false := decide_eq_false (by omega)
          refine tw_iconst C dX11_lastsOf_47 (v := nI 0) (by decide) ?_
          refine tw_istore_n (L' := [(3, .int (nI 0)), (4, .int (nI j)), (0, .ref (tw_ad G 114)), (1, .int (nI a)), (2, .int (nI w))]) C N dX11_lastsOf_48 rfl (by decide) rfl ?_
          refine tw_iinc (k := 1) (v := nI (j + 1)) (L' := [(4, .int (nI (j + 1))), (3, .int (nI 0)), (0, .ref (tw_ad G 114)), (1, .int (nI a)), (2, .int (nI w))]) C N dX11_lastsOf_49 rfl (tn_inc1 _) (by decide) rfl ?_
          refine tw_goto C dX11_lastsOf_52 (tgt := 5) (by decide) ?_
          have e1 : bI (eqB (kO K w) tp (a + 8) (j + 1)) = nI 0 := by rw [eqB_s htb (a + 8) (by omega)]; first | (rw [cz]; rfl) | (rw [hq0, Bool.and_false]; rfl)
          refine TW.c (L' := [(4, .int (nI (j + 1))), (3, .int (bI (eqB (kO K w) tp (a + 8) (j + 1)))), (0, .ref (tw_ad G 114)), (1, .int (nI a)), (2, .int (nI w))]) (by rw [e1]; simp) ?_
          exact ih (j + 1) (by omega)
        · have hq0 : decide (kO K w / 2 ^ (56 - 8 * j) % 256 = tp.getD (a + 8 + j) 0) = true := decide_eq_true (by omega)
          refine tw_iconst C dX11_lastsOf_43 (v := nI 1) (by decide) ?_
          refine tw_goto C dX11_lastsOf_44 (tgt := 48) (by decide) ?_
          refine tw_istore_n (L' := [(3, .int (nI 1)), (4, .int (nI j)), (0, .ref (tw_ad G 114)), (1, .int (nI a)), (2, .int (nI w))]) C N dX11_lastsOf_48 rfl (by decide) rfl ?_
          refine tw_iinc (k := 1) (v := nI (j + 1)) (L' := [(4, .int (nI (j + 1))), (3, .int (nI 1)), (0, .ref (tw_ad G 114)), (1, .int (nI a)), (2, .int (nI w))]) C N dX11_lastsOf_49 rfl (tn_inc1 _) (by decide) rfl ?_
          refine tw_goto C dX11_lastsOf_52 (tgt := 5) (by decide) ?_
          have e1 : bI (eqB (kO K w) tp (a + 8) (j + 1)) = nI 1 := by rw [eqB_s htb (a + 8) (by omega), cz, hq0]; rfl
          refine TW.c (L' := [(4, .int (nI (j + 1))), (3, .int (bI (eqB (kO K w) tp (a + 8) (j + 1)))), (0, .ref (tw_ad G 114)), (1, .int (nI a)), (2, .int (nI w))]) (by rw [e1]; simp) ?_
          exact ih (j + 1) (by omega)
  refine tw_iconst C dX11_lastsOf_0 (v := nI 1) (by decide) ?_
  refine tw_istore_n (L' := [(3, .int (nI 1)), (0, .ref (tw_ad G 114)), (1, .int (nI a)), (2, .int (nI w))]) C N dX11_lastsOf_1 rfl (by decide) rfl ?_
  refine tw_iconst C dX11_lastsOf_2 (v := nI 0) (by decide) ?_
  refine tw_istore (L' := [(4, .int (nI 0)), (3, .int (nI 1)), (0, .ref (tw_ad G 114)), (1, .int (nI a)), (2, .int (nI w))]) C N dX11_lastsOf_3 (i := 4) (by decide) rfl ?_
  refine TW.c (L' := [(4, .int (nI 0)), (3, .int (bI (eqB (kO K w) tp (a + 8) 0))), (0, .ref (tw_ad G 114)), (1, .int (nI a)), (2, .int (nI w))]) (by rw [eqB_0 (hK.2.2.2.2 w)]; simp [bI]; rfl) ?_
  exact loop 8 0 rfl
