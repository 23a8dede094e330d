/-! the packet's end -/
theorem uI_uI (B : tw_S) (r k : Nat) (x y : Int32) : tw_uI (tw_uI B r k x) r k y = tw_uI B r k y := by
  simp only [tw_uI, Prod.mk.injEq, true_and, and_true]
  funext q j
  by_cases h : q = r ∧ j = k <;> simp [h]
def eN (o : Option Nat) (po : Bool) (r : Nat) : Nat := match o with
  | none => r + (if po = true then 8 else 0)
  | some n => n
def EF (B : tw_S) (tf c s g : Nat) (x : Int32) (a : Nat) : tw_S := tw_uA (tw_uA (tw_uA (tw_uA (tw_uA (tw_uA B 123 2 (nI tf)) 123 3 (nI c)) 123 4 (nI s)) 123 5 (nI g)) 123 6 x) 123 7 (nI a)
def eH (po : Bool) : Nat := if po = true then 48 else 40
theorem be22 (v : Nat) : be v 2 = [v / 256 % 256, v % 256] := by
  show [v / 2 ^ 8 % 256, v / 2 ^ 0 % 256] = _
  simp only [Nat.reducePow, Nat.div_one]
theorem c_X11_ends {G : tw_G} (hM : tw_mG G) {B : tw_S} {f : Nat → Int32} {bs : List Nat} (hB : LA (tw_A B 121) bs) (h19 : tw_I B 114 19 = nI bs.length) (hbl : bs.length ≤ 640) (hbb : ∀ x ∈ bs, x < 256) {a s g tf c : Nat} {z x : Int32} {po : Bool} {o : Option Nat} (ha : a ≤ bs.length) (hs : s < 8) (hg : g < 16) (h11 : tw_I B 114 11 = nI (s / 4)) (h12 : tw_I B 114 12 = nI (s % 4)) (h14 : tw_I B 114 14 = nI (g / 8)) (h15 : tw_I B 114 15 = nI (g / 4 % 2)) (h16 : tw_I B 114 16 = nI (g % 4)) (hz : (z = -1 ∧ o = none) ∨ ∃ u, u ≤ 560 ∧ z = nI (u + 40) ∧ o = some u) : tw_M G yX11_ends cX11_ends 9 (some .boolean) 1 22 [.ref (tw_ad G 114), .int z, .int (bI po), .int x, .int (nI tf), .int (nI c)] ((PU B f bs.length a)) ri_I (fun y S' => (560 < eN o po (bs.length - a) ∧ y = nI 0 ∧ S' = tw_uI (tw_uI (PU (tw_uI (EF B tf c s g x a) 114 24 (nI (eH po))) f bs.length a) 114 21 (nI 7)) 114 22 (nI bs.length)) ∨ (¬ 560 < eN o po (bs.length - a) ∧ y = nI 1 ∧ ∃ g1, S' = PU (tw_uI (EF B tf c s g x a) 114 24 (nI (eH po + (bs.length - a)))) g1 bs.length a ∧ BK g1 4 (be (eN o po (bs.length - a)) 2) ∧ (po = true → BK g1 44 (be (eN o po (bs.length - a)) 2)) ∧ BK g1 (eH po) (cutD bs a (bs.length - a)) ∧ ∀ q, q < eH po → q ≠ 4 → q ≠ 5 → (po = true → q ≠ 44 ∧ q ≠ 45) → g1 q = f q)) := by
  refine tw_M.of (L := [(0, .ref (tw_ad G 114)), (1, .int z), (2, .int (bI po)), (3, .int x), (4, .int (nI tf)), (5, .int (nI c))]) (by decide) (Nat.le_of_ble_eq_true rfl) rfl (fun X C N Q => ?_)
  have C : tw_C G X cX11_ends RX11 := C
  have hH : eH po ≤ 48 := by unfold eH; split <;> decide
  have hH2 : 40 ≤ eH po := by unfold eH; split <;> decide
  have loop : ∀ (g0 : Nat → Int32) (_ : ¬ 560 < eN o po (bs.length - a)) (_ : BK g0 4 (be (eN o po (bs.length - a)) 2)) (_ : po = true → BK g0 44 (be (eN o po (bs.length - a)) 2)) (_ : ∀ q, q ≠ 4 → q ≠ 5 → (po = true → q ≠ 44 ∧ q ≠ 45) → g0 q = f q), ∀ (d : Nat) (k : Nat) (g1 : Nat → Int32) (_ : k + d = bs.length - a) (h1 : BK g1 (eH po) (cutD bs a k)) (h2 : ∀ q, q < eH po → g1 q = g0 q), TW G X (PU (tw_uI (EF B tf c s g x a) 114 24 (nI (eH po + k))) g1 bs.length a) [(8, .int (nI k)), (6, .int (nI (bs.length - a))), (0, .ref (tw_ad G 114))] 188 [] := by
    intro g0 hnn q4 q44 qf d
    induction d with
    | zero =>
      intro k g1 hk h1 h2
      refine tw_iload C dX11_ends_188 0 rfl ?_
      refine tw_iload C dX11_ends_190 1 rfl ?_
      refine tn_icmp_ge C dX11_ends_192 (tgt := 231) (by decide) (by omega) (by omega) (fun c1 => ?_) (fun c1 => ?_)
      · skip
        refine tw_iconst C dX11_ends_231 (v := nI 1) (by decide) ?_
        exact tw_ireturn C Q dX11_ends_232 rfl rfl rfl (Or.inr ⟨hnn, rfl, g1, by rw [show bs.length - a = k by omega], BK_cg q4 (fun q h3 h4 => h2 q (by rw [be_len] at h4; omega)), fun hp => BK_cg (q44 hp) (fun q h3 h4 => h2 q (by rw [be_len] at h4; rw [eH, if_pos hp]; omega)), by rw [show bs.length - a = k by omega]; exact h1, fun q k1 k2 k3 k4 => (h2 q k1).trans (qf q k2 k3 k4)⟩)
      · exact absurd c1 (by omega)
    | succ d ih =>
      intro k g1 hk h1 h2
      refine tw_iload C dX11_ends_188 0 rfl ?_
      refine tw_iload C dX11_ends_190 1 rfl ?_
      refine tn_icmp_ge C dX11_ends_192 (tgt := 231) (by decide) (by omega) (by omega) (fun c1 => ?_) (fun c1 => ?_)
      · exact absurd c1 (by omega)
      refine tw_aload_n C dX11_ends_195 2 rfl ?_
      refine tw_aload_n C dX11_ends_196 2 rfl ?_
      refine tw_getI (v := nI (eH po + k)) (k := 24) C dX11_ends_197 fc_X11 sh_114 (hM 114 (by decide) (by decide)) rfl (by decide) wd_637 rfl ?_
      refine tw_aload_n C dX11_ends_200 2 rfl ?_
      refine tw_getR (q := 121) (k := 18) C dX11_ends_201 fc_X11 sh_114 (hM 114 (by decide) (by decide)) rfl (by decide) wd_117 ?_
      refine tw_aload_n C dX11_ends_204 2 rfl ?_
      refine tw_getI (v := nI a) (k := 20) C dX11_ends_205 fc_X11 sh_114 (hM 114 (by decide) (by decide)) rfl (by decide) wd_592 (by show nI (pA bs.length a) = _; rw [pA, Nat.min_eq_left ha]) ?_
      refine tw_iload C dX11_ends_208 0 rfl ?_
      refine tw_iadd C dX11_ends_210 (v := nI (a + k)) (nI_add _ _) ?_
      refine tw_iald (v := nI (bs.getD (a + k) 0)) C dX11_ends_211 sn_121 sa_121 (hM 121 (by decide) (by decide)) (by omega) (by decide) (hB (a + k) (by omega)) ?_
      refine tw_callV (As := [.int (nI (eH po + k)), .int (nI (bs.getD (a + k) 0))]) (rest := []) C N (c_X11_set hM (B := (tw_uI (EF B tf c s g x a) 114 24 (nI (eH po + k)))) (f := g1) (L := bs.length) (v := a) (i := eH po + k) (x := bs.getD (a + k) 0) (by omega)) mm_X11_set wd_605 rfl (hM 114 (by decide) (by decide)) sh_114 rfl (by decide) rfl (Nat.le_of_ble_eq_true rfl) dX11_ends_212 ?_
      rintro _ _ rfl
      show TW G X (PU (tw_uI (EF B tf c s g x a) 114 24 (nI (eH po + k))) (upd g1 (eH po + k) (nI ((bs.getD (a + k) 0) % 256))) bs.length a) [(8, .int (nI k)), (6, .int (nI (bs.length - a))), (0, .ref (tw_ad G 114))] 215 []
      refine tw_aload_n C dX11_ends_215 2 rfl ?_
      refine tw_dup C dX11_ends_216 rfl ?_
      refine tw_getI (v := nI (eH po + k)) (k := 24) C dX11_ends_217 fc_X11 sh_114 (hM 114 (by decide) (by decide)) rfl (by decide) wd_637 rfl ?_
      refine tw_iconst C dX11_ends_220 (v := nI 1) (by decide) ?_
      refine tw_iadd C dX11_ends_221 (v := nI ((eH po + k) + 1)) (nI_add _ _) ?_
      refine tw_putI (k := 24) C dX11_ends_222 fc_X11 sh_114 (hM 114 (by decide) (by decide)) rfl (by decide) rfl wd_637 rfl rfl ?_
      refine TW.sS (S' := PU (tw_uI (tw_uI (EF B tf c s g x a) 114 24 (nI (eH po + k))) 114 24 (nI ((eH po + k) + 1))) (upd g1 (eH po + k) (nI ((bs.getD (a + k) 0) % 256))) bs.length a) (PU_uI (by decide)) ?_
      refine tw_iinc (k := 0) (v := nI (k + 1)) (L' := [(8, .int (nI (k + 1))), (6, .int (nI (bs.length - a))), (0, .ref (tw_ad G 114))]) C N dX11_ends_225 rfl (tn_inc1 _) (by decide) rfl ?_
      refine tw_goto C dX11_ends_228 (tgt := 188) (by decide) ?_
      rw [uI_uI]
      refine TW.c (L' := [(8, .int (nI (k + 1))), (6, .int (nI (bs.length - a))), (0, .ref (tw_ad G 114))]) (by simp) ?_
      exact ih (k + 1) _ (by omega) (by rw [cutD_succ, gD_m hbb]; exact BK_at h1 (by rw [cutD_len])) (fun q hq => by simp only [upd, show ¬ q = eH po + k by omega, if_false]; exact h2 q hq)
  refine tw_aload_n C dX11_ends_0 0 rfl ?_
  refine tw_getR (q := 123) (k := 25) C dX11_ends_1 fc_X11 sh_114 (hM 114 (by decide) (by decide)) rfl (by decide) wd_119 ?_
  refine tw_iconst C dX11_ends_4 (v := nI 2) (by decide) ?_
  refine tw_iload C dX11_ends_5 4 rfl ?_
  refine tw_iast C dX11_ends_7 sn_123 sa_123 (hM 123 (by decide) (by decide)) (by omega) (by decide) ?_
  refine TW.sS (S' := PU (tw_uA B 123 2 (nI tf)) f bs.length a) PU_u3 ?_
  refine tw_aload_n C dX11_ends_8 0 rfl ?_
  refine tw_getR (q := 123) (k := 25) C dX11_ends_9 fc_X11 sh_114 (hM 114 (by decide) (by decide)) rfl (by decide) wd_119 ?_
  refine tw_iconst C dX11_ends_12 (v := nI 3) (by decide) ?_
  refine tw_iload C dX11_ends_13 5 rfl ?_
  refine tw_iast C dX11_ends_15 sn_123 sa_123 (hM 123 (by decide) (by decide)) (by omega) (by decide) ?_
  refine TW.sS (S' := PU (tw_uA (tw_uA B 123 2 (nI tf)) 123 3 (nI c)) f bs.length a) PU_u3 ?_
  refine tw_aload_n C dX11_ends_16 0 rfl ?_
  refine tw_getR (q := 123) (k := 25) C dX11_ends_17 fc_X11 sh_114 (hM 114 (by decide) (by decide)) rfl (by decide) wd_119 ?_
  refine tw_iconst C dX11_ends_20 (v := nI 4) (by decide) ?_
  refine tw_iconst C dX11_ends_21 (v := nI 4) (by decide) ?_
  refine tw_aload_n C dX11_ends_22 0 rfl ?_
  refine tw_getI (v := nI (s / 4)) (k := 11) C dX11_ends_23 fc_X11 sh_114 (hM 114 (by decide) (by decide)) rfl (by decide) wd_393 h11 ?_
  refine tw_imul C dX11_ends_26 (v := nI (4 * (s / 4))) (pk_mul _ _) ?_
  refine tw_aload_n C dX11_ends_27 0 rfl ?_
  refine tw_getI (v := nI (s % 4)) (k := 12) C dX11_ends_28 fc_X11 sh_114 (hM 114 (by decide) (by decide)) rfl (by decide) wd_394 h12 ?_
  refine tw_iadd C dX11_ends_31 (v := nI ((4 * (s / 4)) + (s % 4))) (nI_add _ _) ?_
  refine TW.ti (y := nI s) (by rw [show 4 * (s / 4) + s % 4 = s by omega]) ?_
  refine tw_iast C dX11_ends_32 sn_123 sa_123 (hM 123 (by decide) (by decide)) (by omega) (by decide) ?_
  refine TW.sS (S' := PU (tw_uA (tw_uA (tw_uA B 123 2 (nI tf)) 123 3 (nI c)) 123 4 (nI s)) f bs.length a) PU_u3 ?_
  refine tw_aload_n C dX11_ends_33 0 rfl ?_
  refine tw_getR (q := 123) (k := 25) C dX11_ends_34 fc_X11 sh_114 (hM 114 (by decide) (by decide)) rfl (by decide) wd_119 ?_
  refine tw_iconst C dX11_ends_37 (v := nI 5) (by decide) ?_
  refine tw_bipush C dX11_ends_38 (v := nI 8) (by decide) ?_
  refine tw_aload_n C dX11_ends_40 0 rfl ?_
  refine tw_getI (v := nI (g / 8)) (k := 14) C dX11_ends_41 fc_X11 sh_114 (hM 114 (by decide) (by decide)) rfl (by decide) wd_395 h14 ?_
  refine tw_imul C dX11_ends_44 (v := nI (8 * (g / 8))) (pk_mul _ _) ?_
  refine tw_iconst C dX11_ends_45 (v := nI 4) (by decide) ?_
  refine tw_aload_n C dX11_ends_46 0 rfl ?_
  refine tw_getI (v := nI (g / 4 % 2)) (k := 15) C dX11_ends_47 fc_X11 sh_114 (hM 114 (by decide) (by decide)) rfl (by decide) wd_396 h15 ?_
  refine tw_imul C dX11_ends_50 (v := nI (4 * (g / 4 % 2))) (pk_mul _ _) ?_
  refine tw_iadd C dX11_ends_51 (v := nI ((8 * (g / 8)) + (4 * (g / 4 % 2)))) (nI_add _ _) ?_
  refine tw_aload_n C dX11_ends_52 0 rfl ?_
  refine tw_getI (v := nI (g % 4)) (k := 16) C dX11_ends_53 fc_X11 sh_114 (hM 114 (by decide) (by decide)) rfl (by decide) wd_397 h16 ?_
  refine tw_iadd C dX11_ends_56 (v := nI (((8 * (g / 8)) + (4 * (g / 4 % 2))) + (g % 4))) (nI_add _ _) ?_
  refine TW.ti (y := nI g) (by rw [show 8 * (g / 8) + 4 * (g / 4 % 2) + g % 4 = g by omega]) ?_
  refine tw_iast C dX11_ends_57 sn_123 sa_123 (hM 123 (by decide) (by decide)) (by omega) (by decide) ?_
  refine TW.sS (S' := PU (tw_uA (tw_uA (tw_uA (tw_uA B 123 2 (nI tf)) 123 3 (nI c)) 123 4 (nI s)) 123 5 (nI g)) f bs.length a) PU_u3 ?_
  refine tw_aload_n C dX11_ends_58 0 rfl ?_
  refine tw_getR (q := 123) (k := 25) C dX11_ends_59 fc_X11 sh_114 (hM 114 (by decide) (by decide)) rfl (by decide) wd_119 ?_
  refine tw_bipush C dX11_ends_62 (v := nI 6) (by decide) ?_
  refine tw_iload_n C dX11_ends_64 3 rfl ?_
  refine tw_iast C dX11_ends_65 sn_123 sa_123 (hM 123 (by decide) (by decide)) (by omega) (by decide) ?_
  refine TW.sS (S' := PU (tw_uA (tw_uA (tw_uA (tw_uA (tw_uA B 123 2 (nI tf)) 123 3 (nI c)) 123 4 (nI s)) 123 5 (nI g)) 123 6 (x)) f bs.length a) PU_u3 ?_
  refine tw_aload_n C dX11_ends_66 0 rfl ?_
  refine tw_getR (q := 123) (k := 25) C dX11_ends_67 fc_X11 sh_114 (hM 114 (by decide) (by decide)) rfl (by decide) wd_119 ?_
  refine tw_bipush C dX11_ends_70 (v := nI 7) (by decide) ?_
  refine tw_aload_n C dX11_ends_72 0 rfl ?_
  refine tw_getI (v := nI a) (k := 20) C dX11_ends_73 fc_X11 sh_114 (hM 114 (by decide) (by decide)) rfl (by decide) wd_592 (by show nI (pA bs.length a) = _; rw [pA, Nat.min_eq_left ha]) ?_
  refine tw_iast C dX11_ends_76 sn_123 sa_123 (hM 123 (by decide) (by decide)) (by omega) (by decide) ?_
  refine TW.sS (S' := PU (tw_uA (tw_uA (tw_uA (tw_uA (tw_uA (tw_uA B 123 2 (nI tf)) 123 3 (nI c)) 123 4 (nI s)) 123 5 (nI g)) 123 6 (x)) 123 7 (nI a)) f bs.length a) PU_u3 ?_
  refine TW.sS (S' := PU (EF B tf c s g x a) f bs.length a) rfl ?_
  refine tw_aload_n C dX11_ends_77 0 rfl ?_
  refine tw_iload_n C dX11_ends_78 2 rfl ?_
  refine tb_if_eq C dX11_ends_79 (tgt := 87) (by decide) (fun hpo => ?_) (fun hpo => ?_)
  · skip
    refine tw_bipush C dX11_ends_87 (v := nI 40) (by decide) ?_
    refine tw_putI (k := 24) C dX11_ends_89 fc_X11 sh_114 (hM 114 (by decide) (by decide)) rfl (by decide) rfl wd_637 rfl rfl ?_
    refine TW.sS (S' := PU (tw_uI (EF B tf c s g x a) 114 24 (nI 40)) f bs.length a) (PU_uI (by decide)) ?_
    refine tw_aload_n C dX11_ends_92 0 rfl ?_
    refine tw_getI (v := nI bs.length) (k := 19) C dX11_ends_93 fc_X11 sh_114 (hM 114 (by decide) (by decide)) rfl (by decide) wd_582 h19 ?_
    refine tw_aload_n C dX11_ends_96 0 rfl ?_
    refine tw_getI (v := nI a) (k := 20) C dX11_ends_97 fc_X11 sh_114 (hM 114 (by decide) (by decide)) rfl (by decide) wd_592 (by show nI (pA bs.length a) = _; rw [pA, Nat.min_eq_left ha]) ?_
    refine tw_isub C dX11_ends_100 (v := nI (bs.length - a)) (pk_sub (by omega)) ?_
    refine tw_istore (L' := [(6, .int (nI (bs.length - a))), (0, .ref (tw_ad G 114)), (1, .int z), (2, .int (bI po)), (3, .int x), (4, .int (nI tf)), (5, .int (nI c))]) C N dX11_ends_101 (i := 6) (by decide) rfl ?_
    rcases hz with ⟨rfl, ho⟩ | ⟨u, hu, rfl, ho⟩
    · skip
      refine tw_iload_n C dX11_ends_103 2 rfl ?_
      refine tw_if_ge C dX11_ends_104 (tgt := 120) (by decide) (fun cz => ?_) (fun cz => ?_)
      · exact absurd cz (by decide)
      refine tw_aload_n C dX11_ends_107 1 rfl ?_
      refine tw_getI (v := nI 40) (k := 24) C dX11_ends_108 fc_X11 sh_114 (hM 114 (by decide) (by decide)) rfl (by decide) wd_637 rfl ?_
      refine tw_bipush C dX11_ends_111 (v := nI 40) (by decide) ?_
      refine tw_isub C dX11_ends_113 (v := nI (40 - 40)) (pk_sub (by omega)) ?_
      refine tw_iload C dX11_ends_114 0 rfl ?_
      refine tw_iadd C dX11_ends_116 (v := nI ((40 - 40) + (bs.length - a))) (nI_add _ _) ?_
      refine tw_goto C dX11_ends_117 (tgt := 124) (by decide) ?_
      refine tw_istore (L' := [(7, .int (nI ((40 - 40) + (bs.length - a)))), (6, .int (nI (bs.length - a))), (0, .ref (tw_ad G 114)), (1, .int ((-1))), (2, .int (bI po)), (3, .int x), (4, .int (nI tf)), (5, .int (nI c))]) C N dX11_ends_124 (i := 7) (by decide) rfl ?_
      refine tw_iload C dX11_ends_126 0 rfl ?_
      refine tw_sipush C dX11_ends_128 (v := nI 560) (by decide) ?_
      refine tn_icmp_le C dX11_ends_131 (tgt := 145) (by decide) (by omega) (by omega) (fun c1 => ?_) (fun c1 => ?_)
      · skip
        refine tw_aload_n C dX11_ends_145 2 rfl ?_
        refine tw_iconst C dX11_ends_146 (v := nI 4) (by decide) ?_
        refine tw_iload C dX11_ends_147 0 rfl ?_
        refine tw_bipush C dX11_ends_149 (v := nI 8) (by decide) ?_
        refine tw_ishr C dX11_ends_151 (v := nI (((40 - 40) + (bs.length - a)) / 256)) (nI_shr (by omega) 8 (by decide)) ?_
        refine tw_callV (As := [.int (nI 4), .int (nI (((40 - 40) + (bs.length - a)) / 256))]) (rest := []) C N (c_X11_set hM (B := (tw_uI (EF B tf c s g x a) 114 24 (nI 40))) (f := f) (L := bs.length) (v := a) (i := 4) (x := ((40 - 40) + (bs.length - a)) / 256) (by omega)) mm_X11_set wd_605 rfl (hM 114 (by decide) (by decide)) sh_114 rfl (by decide) rfl (Nat.le_of_ble_eq_true rfl) dX11_ends_152 ?_
        rintro _ _ rfl
        show TW G X (PU (tw_uI (EF B tf c s g x a) 114 24 (nI 40)) (upd f 4 (nI ((((40 - 40) + (bs.length - a)) / 256) % 256))) bs.length a) [(7, .int (nI ((40 - 40) + (bs.length - a)))), (6, .int (nI (bs.length - a))), (0, .ref (tw_ad G 114)), (1, .int ((-1))), (2, .int (bI po)), (3, .int x), (4, .int (nI tf)), (5, .int (nI c))] 155 []
        refine tw_aload_n C dX11_ends_155 2 rfl ?_
        refine tw_iconst C dX11_ends_156 (v := nI 5) (by decide) ?_
        refine tw_iload C dX11_ends_157 0 rfl ?_
        refine tw_callV (As := [.int (nI 5), .int (nI ((40 - 40) + (bs.length - a)))]) (rest := []) C N (c_X11_set hM (B := (tw_uI (EF B tf c s g x a) 114 24 (nI 40))) (f := (upd f 4 (nI ((((40 - 40) + (bs.length - a)) / 256) % 256)))) (L := bs.length) (v := a) (i := 5) (x := (40 - 40) + (bs.length - a)) (by omega)) mm_X11_set wd_605 rfl (hM 114 (by decide) (by decide)) sh_114 rfl (by decide) rfl (Nat.le_of_ble_eq_true rfl) dX11_ends_159 ?_
        rintro _ _ rfl
        show TW G X (PU (tw_uI (EF B tf c s g x a) 114 24 (nI 40)) (upd (upd f 4 (nI ((((40 - 40) + (bs.length - a)) / 256) % 256))) 5 (nI (((40 - 40) + (bs.length - a)) % 256))) bs.length a) [(7, .int (nI ((40 - 40) + (bs.length - a)))), (6, .int (nI (bs.length - a))), (0, .ref (tw_ad G 114)), (1, .int ((-1))), (2, .int (bI po)), (3, .int x), (4, .int (nI tf)), (5, .int (nI c))] 162 []
        refine tw_iload_n C dX11_ends_162 4 rfl ?_
        refine tb_if_eq C dX11_ends_163 (tgt := 185) (by decide) (fun hpo2 => ?_) (fun hpo2 => ?_)
        · skip
          refine tw_iconst C dX11_ends_185 (v := nI 0) (by decide) ?_
          refine tw_istore (L' := [(8, .int (nI 0)), (7, .int (nI ((40 - 40) + (bs.length - a)))), (6, .int (nI (bs.length - a))), (0, .ref (tw_ad G 114)), (1, .int ((-1))), (2, .int (bI po)), (3, .int x), (4, .int (nI tf)), (5, .int (nI c))]) C N dX11_ends_186 (i := 8) (by decide) rfl ?_
          have hn : eN o po (bs.length - a) = (40 - 40) + (bs.length - a) := by rw [ho]; show bs.length - a + (if po = true then 8 else 0) = _; rw [if_neg (by rw [hpo]; decide)]; omega
          have he : eH po = 40 := by rw [eH, if_neg (by rw [hpo]; decide)]
          refine TW.sS (S' := PU (tw_uI (EF B tf c s g x a) 114 24 (nI (eH po + 0))) (upd (upd f 4 (nI ((((40 - 40) + (bs.length - a)) / 256) % 256))) 5 (nI (((40 - 40) + (bs.length - a)) % 256))) bs.length a) (by rw [he]) ?_
          refine TW.c (L' := [(8, .int (nI 0)), (6, .int (nI (bs.length - a))), (0, .ref (tw_ad G 114))]) (by simp) ?_
          exact loop _ (by rw [hn]; exact fun h => by omega) (by rw [hn]; exact BK_e (be22 _) (BK_2 (f := f) (a := 4))) (by rw [hn]; exact (fun h => absurd h (by rw [hpo]; decide))) (fun q k1 k2 k3 => by simp only [upd, show ¬ q = 5 by omega, show ¬ q = 4 by omega, if_false]) (bs.length - a) 0 _ (by omega) (BK_nil _ _) (fun q _ => rfl)
        · skip
          refine tw_aload_n C dX11_ends_166 2 rfl ?_
          refine tw_bipush C dX11_ends_167 (v := nI 44) (by decide) ?_
          refine tw_iload C dX11_ends_169 0 rfl ?_
          refine tw_bipush C dX11_ends_171 (v := nI 8) (by decide) ?_
          refine tw_ishr C dX11_ends_173 (v := nI (((40 - 40) + (bs.length - a)) / 256)) (nI_shr (by omega) 8 (by decide)) ?_
          refine tw_callV (As := [.int (nI 44), .int (nI (((40 - 40) + (bs.length - a)) / 256))]) (rest := []) C N (c_X11_set hM (B := (tw_uI (EF B tf c s g x a) 114 24 (nI 40))) (f := (upd (upd f 4 (nI ((((40 - 40) + (bs.length - a)) / 256) % 256))) 5 (nI (((40 - 40) + (bs.length - a)) % 256)))) (L := bs.length) (v := a) (i := 44) (x := ((40 - 40) + (bs.length - a)) / 256) (by omega)) mm_X11_set wd_605 rfl (hM 114 (by decide) (by decide)) sh_114 rfl (by decide) rfl (Nat.le_of_ble_eq_true rfl) dX11_ends_174 ?_
          rintro _ _ rfl
          show TW G X (PU (tw_uI (EF B tf c s g x a) 114 24 (nI 40)) (upd (upd (upd f 4 (nI ((((40 - 40) + (bs.length - a)) / 256) % 256))) 5 (nI (((40 - 40) + (bs.length - a)) % 256))) 44 (nI ((((40 - 40) + (bs.length - a)) / 256) % 256))) bs.length a) [(7, .int (nI ((40 - 40) + (bs.length - a)))), (6, .int (nI (bs.length - a))), (0, .ref (tw_ad G 114)), (1, .int ((-1))), (2, .int (bI po)), (3, .int x), (4, .int (nI tf)), (5, .int (nI c))] 177 []
          refine tw_aload_n C dX11_ends_177 2 rfl ?_
          refine tw_bipush C dX11_ends_178 (v := nI 45) (by decide) ?_
          refine tw_iload C dX11_ends_180 0 rfl ?_
          refine tw_callV (As := [.int (nI 45), .int (nI ((40 - 40) + (bs.length - a)))]) (rest := []) C N (c_X11_set hM (B := (tw_uI (EF B tf c s g x a) 114 24 (nI 40))) (f := (upd (upd (upd f 4 (nI ((((40 - 40) + (bs.length - a)) / 256) % 256))) 5 (nI (((40 - 40) + (bs.length - a)) % 256))) 44 (nI ((((40 - 40) + (bs.length - a)) / 256) % 256)))) (L := bs.length) (v := a) (i := 45) (x := (40 - 40) + (bs.length - a)) (by omega)) mm_X11_set wd_605 rfl (hM 114 (by decide) (by decide)) sh_114 rfl (by decide) rfl (Nat.le_of_ble_eq_true rfl) dX11_ends_182 ?_
          rintro _ _ rfl
          show TW G X (PU (tw_uI (EF B tf c s g x a) 114 24 (nI 40)) (upd (upd (upd (upd f 4 (nI ((((40 - 40) + (bs.length - a)) / 256) % 256))) 5 (nI (((40 - 40) + (bs.length - a)) % 256))) 44 (nI ((((40 - 40) + (bs.length - a)) / 256) % 256))) 45 (nI (((40 - 40) + (bs.length - a)) % 256))) bs.length a) [(7, .int (nI ((40 - 40) + (bs.length - a)))), (6, .int (nI (bs.length - a))), (0, .ref (tw_ad G 114)), (1, .int ((-1))), (2, .int (bI po)), (3, .int x), (4, .int (nI tf)), (5, .int (nI c))] 185 []
          refine tw_iconst C dX11_ends_185 (v := nI 0) (by decide) ?_
          refine tw_istore (L' := [(8, .int (nI 0)), (7, .int (nI ((40 - 40) + (bs.length - a)))), (6, .int (nI (bs.length - a))), (0, .ref (tw_ad G 114)), (1, .int ((-1))), (2, .int (bI po)), (3, .int x), (4, .int (nI tf)), (5, .int (nI c))]) C N dX11_ends_186 (i := 8) (by decide) rfl ?_
          exact absurd (hpo.symm.trans hpo2) (by decide)
      · skip
        have hn : eN o po (bs.length - a) = (40 - 40) + (bs.length - a) := by rw [ho]; show bs.length - a + (if po = true then 8 else 0) = _; rw [if_neg (by rw [hpo]; decide)]; omega
        have he : eH po = 40 := by rw [eH, if_neg (by rw [hpo]; decide)]
        refine tw_aload_n C dX11_ends_134 2 rfl ?_
        refine tw_bipush C dX11_ends_135 (v := nI 7) (by decide) ?_
        refine tw_aload_n C dX11_ends_137 2 rfl ?_
        refine tw_getI (v := nI bs.length) (k := 19) C dX11_ends_138 fc_X11 sh_114 (hM 114 (by decide) (by decide)) rfl (by decide) wd_582 h19 ?_
        refine tw_callV (As := [.int (nI 7), .int (nI bs.length)]) (rest := []) C N (c_X11_fails hM (S := PU (tw_uI (EF B tf c s g x a) 114 24 (nI 40)) f bs.length a) (w := 7) (u := bs.length) (by omega) (by show nI (pF bs.length a) = nI 0; rw [pF, if_pos ha])) mm_X11_fails wd_597 rfl (hM 114 (by decide) (by decide)) sh_114 rfl (by decide) rfl (Nat.le_of_ble_eq_true rfl) dX11_ends_141 ?_
        rintro _ _ ⟨rfl, rfl⟩
        show TW G X (tw_uI (tw_uI (PU (tw_uI (EF B tf c s g x a) 114 24 (nI 40)) f bs.length a) 114 21 (nI 7)) 114 22 (nI bs.length)) [(7, .int (nI ((40 - 40) + (bs.length - a)))), (6, .int (nI (bs.length - a))), (0, .ref (tw_ad G 114)), (1, .int ((-1))), (2, .int (bI po)), (3, .int x), (4, .int (nI tf)), (5, .int (nI c))] 144 [.int (nI 0)]
        exact tw_ireturn C Q dX11_ends_144 rfl rfl rfl (Or.inl ⟨by omega, rfl, by rw [he]⟩)
    · skip
      refine tw_iload_n C dX11_ends_103 2 rfl ?_
      refine tn_if_ge C dX11_ends_104 (tgt := 120) (by decide) (by omega) (fun c7 => ?_) (fun c7 => ?_)
      · skip
        refine tw_iload_n C dX11_ends_120 2 rfl ?_
        refine tw_bipush C dX11_ends_121 (v := nI 40) (by decide) ?_
        refine tw_isub C dX11_ends_123 (v := nI ((u + 40) - 40)) (pk_sub (by omega)) ?_
        refine tw_istore (L' := [(7, .int (nI ((u + 40) - 40))), (6, .int (nI (bs.length - a))), (0, .ref (tw_ad G 114)), (1, .int (nI (u + 40))), (2, .int (bI po)), (3, .int x), (4, .int (nI tf)), (5, .int (nI c))]) C N dX11_ends_124 (i := 7) (by decide) rfl ?_
        refine tw_iload C dX11_ends_126 0 rfl ?_
        refine tw_sipush C dX11_ends_128 (v := nI 560) (by decide) ?_
        refine tn_icmp_le C dX11_ends_131 (tgt := 145) (by decide) (by omega) (by omega) (fun c8 => ?_) (fun c8 => ?_)
        · skip
          refine tw_aload_n C dX11_ends_145 2 rfl ?_
          refine tw_iconst C dX11_ends_146 (v := nI 4) (by decide) ?_
          refine tw_iload C dX11_ends_147 0 rfl ?_
          refine tw_bipush C dX11_ends_149 (v := nI 8) (by decide) ?_
          refine tw_ishr C dX11_ends_151 (v := nI (((u + 40) - 40) / 256)) (nI_shr (by omega) 8 (by decide)) ?_
          refine tw_callV (As := [.int (nI 4), .int (nI (((u + 40) - 40) / 256))]) (rest := []) C N (c_X11_set hM (B := (tw_uI (EF B tf c s g x a) 114 24 (nI 40))) (f := f) (L := bs.length) (v := a) (i := 4) (x := ((u + 40) - 40) / 256) (by omega)) mm_X11_set wd_605 rfl (hM 114 (by decide) (by decide)) sh_114 rfl (by decide) rfl (Nat.le_of_ble_eq_true rfl) dX11_ends_152 ?_
          rintro _ _ rfl
          show TW G X (PU (tw_uI (EF B tf c s g x a) 114 24 (nI 40)) (upd f 4 (nI ((((u + 40) - 40) / 256) % 256))) bs.length a) [(7, .int (nI ((u + 40) - 40))), (6, .int (nI (bs.length - a))), (0, .ref (tw_ad G 114)), (1, .int (nI (u + 40))), (2, .int (bI po)), (3, .int x), (4, .int (nI tf)), (5, .int (nI c))] 155 []
          refine tw_aload_n C dX11_ends_155 2 rfl ?_
          refine tw_iconst C dX11_ends_156 (v := nI 5) (by decide) ?_
          refine tw_iload C dX11_ends_157 0 rfl ?_
          refine tw_callV (As := [.int (nI 5), .int (nI ((u + 40) - 40))]) (rest := []) C N (c_X11_set hM (B := (tw_uI (EF B tf c s g x a) 114 24 (nI 40))) (f := (upd f 4 (nI ((((u + 40) - 40) / 256) % 256)))) (L := bs.length) (v := a) (i := 5) (x := (u + 40) - 40) (by omega)) mm_X11_set wd_605 rfl (hM 114 (by decide) (by decide)) sh_114 rfl (by decide) rfl (Nat.le_of_ble_eq_true rfl) dX11_ends_159 ?_
          rintro _ _ rfl
          show TW G X (PU (tw_uI (EF B tf c s g x a) 114 24 (nI 40)) (upd (upd f 4 (nI ((((u + 40) - 40) / 256) % 256))) 5 (nI (((u + 40) - 40) % 256))) bs.length a) [(7, .int (nI ((u + 40) - 40))), (6, .int (nI (bs.length - a))), (0, .ref (tw_ad G 114)), (1, .int (nI (u + 40))), (2, .int (bI po)), (3, .int x), (4, .int (nI tf)), (5, .int (nI c))] 162 []
          refine tw_iload_n C dX11_ends_162 4 rfl ?_
          refine tb_if_eq C dX11_ends_163 (tgt := 185) (by decide) (fun hpo2 => ?_) (fun hpo2 => ?_)
          · skip
            refine tw_iconst C dX11_ends_185 (v := nI 0) (by decide) ?_
            refine tw_istore (L' := [(8, .int (nI 0)), (7, .int (nI ((u + 40) - 40))), (6, .int (nI (bs.length - a))), (0, .ref (tw_ad G 114)), (1, .int (nI (u + 40))), (2, .int (bI po)), (3, .int x), (4, .int (nI tf)), (5, .int (nI c))]) C N dX11_ends_186 (i := 8) (by decide) rfl ?_
            have hn : eN o po (bs.length - a) = (u + 40) - 40 := by rw [ho]; show u = _; omega
            have he : eH po = 40 := by rw [eH, if_neg (by rw [hpo]; decide)]
            refine TW.sS (S' := PU (tw_uI (EF B tf c s g x a) 114 24 (nI (eH po + 0))) (upd (upd f 4 (nI ((((u + 40) - 40) / 256) % 256))) 5 (nI (((u + 40) - 40) % 256))) bs.length a) (by rw [he]) ?_
            refine TW.c (L' := [(8, .int (nI 0)), (6, .int (nI (bs.length - a))), (0, .ref (tw_ad G 114))]) (by simp) ?_
            exact loop _ (by rw [hn]; exact fun h => by omega) (by rw [hn]; exact BK_e (be22 _) (BK_2 (f := f) (a := 4))) (by rw [hn]; exact (fun h => absurd h (by rw [hpo]; decide))) (fun q k1 k2 k3 => by simp only [upd, show ¬ q = 5 by omega, show ¬ q = 4 by omega, if_false]) (bs.length - a) 0 _ (by omega) (BK_nil _ _) (fun q _ => rfl)
          · skip
            refine tw_aload_n C dX11_ends_166 2 rfl ?_
            refine tw_bipush C dX11_ends_167 (v := nI 44) (by decide) ?_
            refine tw_iload C dX11_ends_169 0 rfl ?_
            refine tw_bipush C dX11_ends_171 (v := nI 8) (by decide) ?_
            refine tw_ishr C dX11_ends_173 (v := nI (((u + 40) - 40) / 256)) (nI_shr (by omega) 8 (by decide)) ?_
            refine tw_callV (As := [.int (nI 44), .int (nI (((u + 40) - 40) / 256))]) (rest := []) C N (c_X11_set hM (B := (tw_uI (EF B tf c s g x a) 114 24 (nI 40))) (f := (upd (upd f 4 (nI ((((u + 40) - 40) / 256) % 256))) 5 (nI (((u + 40) - 40) % 256)))) (L := bs.length) (v := a) (i := 44) (x := ((u + 40) - 40) / 256) (by omega)) mm_X11_set wd_605 rfl (hM 114 (by decide) (by decide)) sh_114 rfl (by decide) rfl (Nat.le_of_ble_eq_true rfl) dX11_ends_174 ?_
            rintro _ _ rfl
            show TW G X (PU (tw_uI (EF B tf c s g x a) 114 24 (nI 40)) (upd (upd (upd f 4 (nI ((((u + 40) - 40) / 256) % 256))) 5 (nI (((u + 40) - 40) % 256))) 44 (nI ((((u + 40) - 40) / 256) % 256))) bs.length a) [(7, .int (nI ((u + 40) - 40))), (6, .int (nI (bs.length - a))), (0, .ref (tw_ad G 114)), (1, .int (nI (u + 40))), (2, .int (bI po)), (3, .int x), (4, .int (nI tf)), (5, .int (nI c))] 177 []
            refine tw_aload_n C dX11_ends_177 2 rfl ?_
            refine tw_bipush C dX11_ends_178 (v := nI 45) (by decide) ?_
            refine tw_iload C dX11_ends_180 0 rfl ?_
            refine tw_callV (As := [.int (nI 45), .int (nI ((u + 40) - 40))]) (rest := []) C N (c_X11_set hM (B := (tw_uI (EF B tf c s g x a) 114 24 (nI 40))) (f := (upd (upd (upd f 4 (nI ((((u + 40) - 40) / 256) % 256))) 5 (nI (((u + 40) - 40) % 256))) 44 (nI ((((u + 40) - 40) / 256) % 256)))) (L := bs.length) (v := a) (i := 45) (x := (u + 40) - 40) (by omega)) mm_X11_set wd_605 rfl (hM 114 (by decide) (by decide)) sh_114 rfl (by decide) rfl (Nat.le_of_ble_eq_true rfl) dX11_ends_182 ?_
            rintro _ _ rfl
            show TW G X (PU (tw_uI (EF B tf c s g x a) 114 24 (nI 40)) (upd (upd (upd (upd f 4 (nI ((((u + 40) - 40) / 256) % 256))) 5 (nI (((u + 40) - 40) % 256))) 44 (nI ((((u + 40) - 40) / 256) % 256))) 45 (nI (((u + 40) - 40) % 256))) bs.length a) [(7, .int (nI ((u + 40) - 40))), (6, .int (nI (bs.length - a))), (0, .ref (tw_ad G 114)), (1, .int (nI (u + 40))), (2, .int (bI po)), (3, .int x), (4, .int (nI tf)), (5, .int (nI c))] 185 []
            refine tw_iconst C dX11_ends_185 (v := nI 0) (by decide) ?_
            refine tw_istore (L' := [(8, .int (nI 0)), (7, .int (nI ((u + 40) - 40))), (6, .int (nI (bs.length - a))), (0, .ref (tw_ad G 114)), (1, .int (nI (u + 40))), (2, .int (bI po)), (3, .int x), (4, .int (nI tf)), (5, .int (nI c))]) C N dX11_ends_186 (i := 8) (by decide) rfl ?_
            exact absurd (hpo.symm.trans hpo2) (by decide)
        · skip
          exfalso
          omega
      · exact absurd trivial (by simp at c7)
  · skip
    refine tw_bipush C dX11_ends_82 (v := nI 48) (by decide) ?_
    refine tw_goto C dX11_ends_84 (tgt := 89) (by decide) ?_
    refine tw_putI (k := 24) C dX11_ends_89 fc_X11 sh_114 (hM 114 (by decide) (by decide)) rfl (by decide) rfl wd_637 rfl rfl ?_
    refine TW.sS (S' := PU (tw_uI (EF B tf c s g x a) 114 24 (nI 48)) f bs.length a) (PU_uI (by decide)) ?_
    refine tw_aload_n C dX11_ends_92 0 rfl ?_
    refine tw_getI (v := nI bs.length) (k := 19) C dX11_ends_93 fc_X11 sh_114 (hM 114 (by decide) (by decide)) rfl (by decide) wd_582 h19 ?_
    refine tw_aload_n C dX11_ends_96 0 rfl ?_
    refine tw_getI (v := nI a) (k := 20) C dX11_ends_97 fc_X11 sh_114 (hM 114 (by decide) (by decide)) rfl (by decide) wd_592 (by show nI (pA bs.length a) = _; rw [pA, Nat.min_eq_left ha]) ?_
    refine tw_isub C dX11_ends_100 (v := nI (bs.length - a)) (pk_sub (by omega)) ?_
    refine tw_istore (L' := [(6, .int (nI (bs.length - a))), (0, .ref (tw_ad G 114)), (1, .int z), (2, .int (bI po)), (3, .int x), (4, .int (nI tf)), (5, .int (nI c))]) C N dX11_ends_101 (i := 6) (by decide) rfl ?_
    rcases hz with ⟨rfl, ho⟩ | ⟨u, hu, rfl, ho⟩
    · skip
      refine tw_iload_n C dX11_ends_103 2 rfl ?_
      refine tw_if_ge C dX11_ends_104 (tgt := 120) (by decide) (fun cz => ?_) (fun cz => ?_)
      · exact absurd cz (by decide)
      refine tw_aload_n C dX11_ends_107 1 rfl ?_
      refine tw_getI (v := nI 48) (k := 24) C dX11_ends_108 fc_X11 sh_114 (hM 114 (by decide) (by decide)) rfl (by decide) wd_637 rfl ?_
      refine tw_bipush C dX11_ends_111 (v := nI 40) (by decide) ?_
      refine tw_isub C dX11_ends_113 (v := nI (48 - 40)) (pk_sub (by omega)) ?_
      refine tw_iload C dX11_ends_114 0 rfl ?_
      refine tw_iadd C dX11_ends_116 (v := nI ((48 - 40) + (bs.length - a))) (nI_add _ _) ?_
      refine tw_goto C dX11_ends_117 (tgt := 124) (by decide) ?_
      refine tw_istore (L' := [(7, .int (nI ((48 - 40) + (bs.length - a)))), (6, .int (nI (bs.length - a))), (0, .ref (tw_ad G 114)), (1, .int ((-1))), (2, .int (bI po)), (3, .int x), (4, .int (nI tf)), (5, .int (nI c))]) C N dX11_ends_124 (i := 7) (by decide) rfl ?_
      refine tw_iload C dX11_ends_126 0 rfl ?_
      refine tw_sipush C dX11_ends_128 (v := nI 560) (by decide) ?_
      refine tn_icmp_le C dX11_ends_131 (tgt := 145) (by decide) (by omega) (by omega) (fun c13 => ?_) (fun c13 => ?_)
      · skip
        refine tw_aload_n C dX11_ends_145 2 rfl ?_
        refine tw_iconst C dX11_ends_146 (v := nI 4) (by decide) ?_
        refine tw_iload C dX11_ends_147 0 rfl ?_
        refine tw_bipush C dX11_ends_149 (v := nI 8) (by decide) ?_
        refine tw_ishr C dX11_ends_151 (v := nI (((48 - 40) + (bs.length - a)) / 256)) (nI_shr (by omega) 8 (by decide)) ?_
        refine tw_callV (As := [.int (nI 4), .int (nI (((48 - 40) + (bs.length - a)) / 256))]) (rest := []) C N (c_X11_set hM (B := (tw_uI (EF B tf c s g x a) 114 24 (nI 48))) (f := f) (L := bs.length) (v := a) (i := 4) (x := ((48 - 40) + (bs.length - a)) / 256) (by omega)) mm_X11_set wd_605 rfl (hM 114 (by decide) (by decide)) sh_114 rfl (by decide) rfl (Nat.le_of_ble_eq_true rfl) dX11_ends_152 ?_
        rintro _ _ rfl
        show TW G X (PU (tw_uI (EF B tf c s g x a) 114 24 (nI 48)) (upd f 4 (nI ((((48 - 40) + (bs.length - a)) / 256) % 256))) bs.length a) [(7, .int (nI ((48 - 40) + (bs.length - a)))), (6, .int (nI (bs.length - a))), (0, .ref (tw_ad G 114)), (1, .int ((-1))), (2, .int (bI po)), (3, .int x), (4, .int (nI tf)), (5, .int (nI c))] 155 []
        refine tw_aload_n C dX11_ends_155 2 rfl ?_
        refine tw_iconst C dX11_ends_156 (v := nI 5) (by decide) ?_
        refine tw_iload C dX11_ends_157 0 rfl ?_
        refine tw_callV (As := [.int (nI 5), .int (nI ((48 - 40) + (bs.length - a)))]) (rest := []) C N (c_X11_set hM (B := (tw_uI (EF B tf c s g x a) 114 24 (nI 48))) (f := (upd f 4 (nI ((((48 - 40) + (bs.length - a)) / 256) % 256)))) (L := bs.length) (v := a) (i := 5) (x := (48 - 40) + (bs.length - a)) (by omega)) mm_X11_set wd_605 rfl (hM 114 (by decide) (by decide)) sh_114 rfl (by decide) rfl (Nat.le_of_ble_eq_true rfl) dX11_ends_159 ?_
        rintro _ _ rfl
        show TW G X (PU (tw_uI (EF B tf c s g x a) 114 24 (nI 48)) (upd (upd f 4 (nI ((((48 - 40) + (bs.length - a)) / 256) % 256))) 5 (nI (((48 - 40) + (bs.length - a)) % 256))) bs.length a) [(7, .int (nI ((48 - 40) + (bs.length - a)))), (6, .int (nI (bs.length - a))), (0, .ref (tw_ad G 114)), (1, .int ((-1))), (2, .int (bI po)), (3, .int x), (4, .int (nI tf)), (5, .int (nI c))] 162 []
        refine tw_iload_n C dX11_ends_162 4 rfl ?_
        refine tb_if_eq C dX11_ends_163 (tgt := 185) (by decide) (fun hpo2 => ?_) (fun hpo2 => ?_)
        · skip
          refine tw_iconst C dX11_ends_185 (v := nI 0) (by decide) ?_
          refine tw_istore (L' := [(8, .int (nI 0)), (7, .int (nI ((48 - 40) + (bs.length - a)))), (6, .int (nI (bs.length - a))), (0, .ref (tw_ad G 114)), (1, .int ((-1))), (2, .int (bI po)), (3, .int x), (4, .int (nI tf)), (5, .int (nI c))]) C N dX11_ends_186 (i := 8) (by decide) rfl ?_
          exact absurd (hpo.symm.trans hpo2) (by decide)
        · skip
          refine tw_aload_n C dX11_ends_166 2 rfl ?_
          refine tw_bipush C dX11_ends_167 (v := nI 44) (by decide) ?_
          refine tw_iload C dX11_ends_169 0 rfl ?_
          refine tw_bipush C dX11_ends_171 (v := nI 8) (by decide) ?_
          refine tw_ishr C dX11_ends_173 (v := nI (((48 - 40) + (bs.length - a)) / 256)) (nI_shr (by omega) 8 (by decide)) ?_
          refine tw_callV (As := [.int (nI 44), .int (nI (((48 - 40) + (bs.length - a)) / 256))]) (rest := []) C N (c_X11_set hM (B := (tw_uI (EF B tf c s g x a) 114 24 (nI 48))) (f := (upd (upd f 4 (nI ((((48 - 40) + (bs.length - a)) / 256) % 256))) 5 (nI (((48 - 40) + (bs.length - a)) % 256)))) (L := bs.length) (v := a) (i := 44) (x := ((48 - 40) + (bs.length - a)) / 256) (by omega)) mm_X11_set wd_605 rfl (hM 114 (by decide) (by decide)) sh_114 rfl (by decide) rfl (Nat.le_of_ble_eq_true rfl) dX11_ends_174 ?_
          rintro _ _ rfl
          show TW G X (PU (tw_uI (EF B tf c s g x a) 114 24 (nI 48)) (upd (upd (upd f 4 (nI ((((48 - 40) + (bs.length - a)) / 256) % 256))) 5 (nI (((48 - 40) + (bs.length - a)) % 256))) 44 (nI ((((48 - 40) + (bs.length - a)) / 256) % 256))) bs.length a) [(7, .int (nI ((48 - 40) + (bs.length - a)))), (6, .int (nI (bs.length - a))), (0, .ref (tw_ad G 114)), (1, .int ((-1))), (2, .int (bI po)), (3, .int x), (4, .int (nI tf)), (5, .int (nI c))] 177 []
          refine tw_aload_n C dX11_ends_177 2 rfl ?_
          refine tw_bipush C dX11_ends_178 (v := nI 45) (by decide) ?_
          refine tw_iload C dX11_ends_180 0 rfl ?_
          refine tw_callV (As := [.int (nI 45), .int (nI ((48 - 40) + (bs.length - a)))]) (rest := []) C N (c_X11_set hM (B := (tw_uI (EF B tf c s g x a) 114 24 (nI 48))) (f := (upd (upd (upd f 4 (nI ((((48 - 40) + (bs.length - a)) / 256) % 256))) 5 (nI (((48 - 40) + (bs.length - a)) % 256))) 44 (nI ((((48 - 40) + (bs.length - a)) / 256) % 256)))) (L := bs.length) (v := a) (i := 45) (x := (48 - 40) + (bs.length - a)) (by omega)) mm_X11_set wd_605 rfl (hM 114 (by decide) (by decide)) sh_114 rfl (by decide) rfl (Nat.le_of_ble_eq_true rfl) dX11_ends_182 ?_
          rintro _ _ rfl
          show TW G X (PU (tw_uI (EF B tf c s g x a) 114 24 (nI 48)) (upd (upd (upd (upd f 4 (nI ((((48 - 40) + (bs.length - a)) / 256) % 256))) 5 (nI (((48 - 40) + (bs.length - a)) % 256))) 44 (nI ((((48 - 40) + (bs.length - a)) / 256) % 256))) 45 (nI (((48 - 40) + (bs.length - a)) % 256))) bs.length a) [(7, .int (nI ((48 - 40) + (bs.length - a)))), (6, .int (nI (bs.length - a))), (0, .ref (tw_ad G 114)), (1, .int ((-1))), (2, .int (bI po)), (3, .int x), (4, .int (nI tf)), (5, .int (nI c))] 185 []
          refine tw_iconst C dX11_ends_185 (v := nI 0) (by decide) ?_
          refine tw_istore (L' := [(8, .int (nI 0)), (7, .int (nI ((48 - 40) + (bs.length - a)))), (6, .int (nI (bs.length - a))), (0, .ref (tw_ad G 114)), (1, .int ((-1))), (2, .int (bI po)), (3, .int x), (4, .int (nI tf)), (5, .int (nI c))]) C N dX11_ends_186 (i := 8) (by decide) rfl ?_
          have hn : eN o po (bs.length - a) = (48 - 40) + (bs.length - a) := by rw [ho]; show bs.length - a + (if po = true then 8 else 0) = _; rw [if_pos hpo]; omega
          have he : eH po = 48 := by rw [eH, if_pos hpo]
          refine TW.sS (S' := PU (tw_uI (EF B tf c s g x a) 114 24 (nI (eH po + 0))) (upd (upd (upd (upd f 4 (nI ((((48 - 40) + (bs.length - a)) / 256) % 256))) 5 (nI (((48 - 40) + (bs.length - a)) % 256))) 44 (nI ((((48 - 40) + (bs.length - a)) / 256) % 256))) 45 (nI (((48 - 40) + (bs.length - a)) % 256))) bs.length a) (by rw [he]) ?_
          refine TW.c (L' := [(8, .int (nI 0)), (6, .int (nI (bs.length - a))), (0, .ref (tw_ad G 114))]) (by simp) ?_
          exact loop _ (by rw [hn]; exact fun h => by omega) (by rw [hn]; exact BK_cg (BK_e (be22 _) (BK_2 (f := f) (a := 4))) (fun q h3 h4 => by simp only [be_len] at h4; simp only [upd, show ¬ q = 45 by omega, show ¬ q = 44 by omega, if_false])) (by rw [hn]; exact (fun _ => BK_e (be22 _) (BK_2 (a := 44)))) (fun q k1 k2 k3 => by have k4 := k3 hpo; simp only [upd, show ¬ q = 45 by omega, show ¬ q = 44 by omega, show ¬ q = 5 by omega, show ¬ q = 4 by omega, if_false]) (bs.length - a) 0 _ (by omega) (BK_nil _ _) (fun q _ => rfl)
      · skip
        have hn : eN o po (bs.length - a) = (48 - 40) + (bs.length - a) := by rw [ho]; show bs.length - a + (if po = true then 8 else 0) = _; rw [if_pos hpo]; omega
        have he : eH po = 48 := by rw [eH, if_pos hpo]
        refine tw_aload_n C dX11_ends_134 2 rfl ?_
        refine tw_bipush C dX11_ends_135 (v := nI 7) (by decide) ?_
        refine tw_aload_n C dX11_ends_137 2 rfl ?_
        refine tw_getI (v := nI bs.length) (k := 19) C dX11_ends_138 fc_X11 sh_114 (hM 114 (by decide) (by decide)) rfl (by decide) wd_582 h19 ?_
        refine tw_callV (As := [.int (nI 7), .int (nI bs.length)]) (rest := []) C N (c_X11_fails hM (S := PU (tw_uI (EF B tf c s g x a) 114 24 (nI 48)) f bs.length a) (w := 7) (u := bs.length) (by omega) (by show nI (pF bs.length a) = nI 0; rw [pF, if_pos ha])) mm_X11_fails wd_597 rfl (hM 114 (by decide) (by decide)) sh_114 rfl (by decide) rfl (Nat.le_of_ble_eq_true rfl) dX11_ends_141 ?_
        rintro _ _ ⟨rfl, rfl⟩
        show TW G X (tw_uI (tw_uI (PU (tw_uI (EF B tf c s g x a) 114 24 (nI 48)) f bs.length a) 114 21 (nI 7)) 114 22 (nI bs.length)) [(7, .int (nI ((48 - 40) + (bs.length - a)))), (6, .int (nI (bs.length - a))), (0, .ref (tw_ad G 114)), (1, .int ((-1))), (2, .int (bI po)), (3, .int x), (4, .int (nI tf)), (5, .int (nI c))] 144 [.int (nI 0)]
        exact tw_ireturn C Q dX11_ends_144 rfl rfl rfl (Or.inl ⟨by omega, rfl, by rw [he]⟩)
    · skip
      refine tw_iload_n C dX11_ends_103 2 rfl ?_
      refine tn_if_ge C dX11_ends_104 (tgt := 120) (by decide) (by omega) (fun c19 => ?_) (fun c19 => ?_)
      · skip
        refine tw_iload_n C dX11_ends_120 2 rfl ?_
        refine tw_bipush C dX11_ends_121 (v := nI 40) (by decide) ?_
        refine tw_isub C dX11_ends_123 (v := nI ((u + 40) - 40)) (pk_sub (by omega)) ?_
        refine tw_istore (L' := [(7, .int (nI ((u + 40) - 40))), (6, .int (nI (bs.length - a))), (0, .ref (tw_ad G 114)), (1, .int (nI (u + 40))), (2, .int (bI po)), (3, .int x), (4, .int (nI tf)), (5, .int (nI c))]) C N dX11_ends_124 (i := 7) (by decide) rfl ?_
        refine tw_iload C dX11_ends_126 0 rfl ?_
        refine tw_sipush C dX11_ends_128 (v := nI 560) (by decide) ?_
        refine tn_icmp_le C dX11_ends_131 (tgt := 145) (by decide) (by omega) (by omega) (fun c20 => ?_) (fun c20 => ?_)
        · skip
          refine tw_aload_n C dX11_ends_145 2 rfl ?_
          refine tw_iconst C dX11_ends_146 (v := nI 4) (by decide) ?_
          refine tw_iload C dX11_ends_147 0 rfl ?_
          refine tw_bipush C dX11_ends_149 (v := nI 8) (by decide) ?_
          refine tw_ishr C dX11_ends_151 (v := nI (((u + 40) - 40) / 256)) (nI_shr (by omega) 8 (by decide)) ?_
          refine tw_callV (As := [.int (nI 4), .int (nI (((u + 40) - 40) / 256))]) (rest := []) C N (c_X11_set hM (B := (tw_uI (EF B tf c s g x a) 114 24 (nI 48))) (f := f) (L := bs.length) (v := a) (i := 4) (x := ((u + 40) - 40) / 256) (by omega)) mm_X11_set wd_605 rfl (hM 114 (by decide) (by decide)) sh_114 rfl (by decide) rfl (Nat.le_of_ble_eq_true rfl) dX11_ends_152 ?_
          rintro _ _ rfl
          show TW G X (PU (tw_uI (EF B tf c s g x a) 114 24 (nI 48)) (upd f 4 (nI ((((u + 40) - 40) / 256) % 256))) bs.length a) [(7, .int (nI ((u + 40) - 40))), (6, .int (nI (bs.length - a))), (0, .ref (tw_ad G 114)), (1, .int (nI (u + 40))), (2, .int (bI po)), (3, .int x), (4, .int (nI tf)), (5, .int (nI c))] 155 []
          refine tw_aload_n C dX11_ends_155 2 rfl ?_
          refine tw_iconst C dX11_ends_156 (v := nI 5) (by decide) ?_
          refine tw_iload C dX11_ends_157 0 rfl ?_
          refine tw_callV (As := [.int (nI 5), .int (nI ((u + 40) - 40))]) (rest := []) C N (c_X11_set hM (B := (tw_uI (EF B tf c s g x a) 114 24 (nI 48))) (f := (upd f 4 (nI ((((u + 40) - 40) / 256) % 256)))) (L := bs.length) (v := a) (i := 5) (x := (u + 40) - 40) (by omega)) mm_X11_set wd_605 rfl (hM 114 (by decide) (by decide)) sh_114 rfl (by decide) rfl (Nat.le_of_ble_eq_true rfl) dX11_ends_159 ?_
          rintro _ _ rfl
          show TW G X (PU (tw_uI (EF B tf c s g x a) 114 24 (nI 48)) (upd (upd f 4 (nI ((((u + 40) - 40) / 256) % 256))) 5 (nI (((u + 40) - 40) % 256))) bs.length a) [(7, .int (nI ((u + 40) - 40))), (6, .int (nI (bs.length - a))), (0, .ref (tw_ad G 114)), (1, .int (nI (u + 40))), (2, .int (bI po)), (3, .int x), (4, .int (nI tf)), (5, .int (nI c))] 162 []
          refine tw_iload_n C dX11_ends_162 4 rfl ?_
          refine tb_if_eq C dX11_ends_163 (tgt := 185) (by decide) (fun hpo2 => ?_) (fun hpo2 => ?_)
          · skip
            refine tw_iconst C dX11_ends_185 (v := nI 0) (by decide) ?_
            refine tw_istore (L' := [(8, .int (nI 0)), (7, .int (nI ((u + 40) - 40))), (6, .int (nI (bs.length - a))), (0, .ref (tw_ad G 114)), (1, .int (nI (u + 40))), (2, .int (bI po)), (3, .int x), (4, .int (nI tf)), (5, .int (nI c))]) C N dX11_ends_186 (i := 8) (by decide) rfl ?_
            exact absurd (hpo.symm.trans hpo2) (by decide)
          · skip
            refine tw_aload_n C dX11_ends_166 2 rfl ?_
            refine tw_bipush C dX11_ends_167 (v := nI 44) (by decide) ?_
            refine tw_iload C dX11_ends_169 0 rfl ?_
            refine tw_bipush C dX11_ends_171 (v := nI 8) (by decide) ?_
            refine tw_ishr C dX11_ends_173 (v := nI (((u + 40) - 40) / 256)) (nI_shr (by omega) 8 (by decide)) ?_
            refine tw_callV (As := [.int (nI 44), .int (nI (((u + 40) - 40) / 256))]) (rest := []) C N (c_X11_set hM (B := (tw_uI (EF B tf c s g x a) 114 24 (nI 48))) (f := (upd (upd f 4 (nI ((((u + 40) - 40) / 256) % 256))) 5 (nI (((u + 40) - 40) % 256)))) (L := bs.length) (v := a) (i := 44) (x := ((u + 40) - 40) / 256) (by omega)) mm_X11_set wd_605 rfl (hM 114 (by decide) (by decide)) sh_114 rfl (by decide) rfl (Nat.le_of_ble_eq_true rfl) dX11_ends_174 ?_
            rintro _ _ rfl
            show TW G X (PU (tw_uI (EF B tf c s g x a) 114 24 (nI 48)) (upd (upd (upd f 4 (nI ((((u + 40) - 40) / 256) % 256))) 5 (nI (((u + 40) - 40) % 256))) 44 (nI ((((u + 40) - 40) / 256) % 256))) bs.length a) [(7, .int (nI ((u + 40) - 40))), (6, .int (nI (bs.length - a))), (0, .ref (tw_ad G 114)), (1, .int (nI (u + 40))), (2, .int (bI po)), (3, .int x), (4, .int (nI tf)), (5, .int (nI c))] 177 []
            refine tw_aload_n C dX11_ends_177 2 rfl ?_
            refine tw_bipush C dX11_ends_178 (v := nI 45) (by decide) ?_
            refine tw_iload C dX11_ends_180 0 rfl ?_
            refine tw_callV (As := [.int (nI 45), .int (nI ((u + 40) - 40))]) (rest := []) C N (c_X11_set hM (B := (tw_uI (EF B tf c s g x a) 114 24 (nI 48))) (f := (upd (upd (upd f 4 (nI ((((u + 40) - 40) / 256) % 256))) 5 (nI (((u + 40) - 40) % 256))) 44 (nI ((((u + 40) - 40) / 256) % 256)))) (L := bs.length) (v := a) (i := 45) (x := (u + 40) - 40) (by omega)) mm_X11_set wd_605 rfl (hM 114 (by decide) (by decide)) sh_114 rfl (by decide) rfl (Nat.le_of_ble_eq_true rfl) dX11_ends_182 ?_
            rintro _ _ rfl
            show TW G X (PU (tw_uI (EF B tf c s g x a) 114 24 (nI 48)) (upd (upd (upd (upd f 4 (nI ((((u + 40) - 40) / 256) % 256))) 5 (nI (((u + 40) - 40) % 256))) 44 (nI ((((u + 40) - 40) / 256) % 256))) 45 (nI (((u + 40) - 40) % 256))) bs.length a) [(7, .int (nI ((u + 40) - 40))), (6, .int (nI (bs.length - a))), (0, .ref (tw_ad G 114)), (1, .int (nI (u + 40))), (2, .int (bI po)), (3, .int x), (4, .int (nI tf)), (5, .int (nI c))] 185 []
            refine tw_iconst C dX11_ends_185 (v := nI 0) (by decide) ?_
            refine tw_istore (L' := [(8, .int (nI 0)), (7, .int (nI ((u + 40) - 40))), (6, .int (nI (bs.length - a))), (0, .ref (tw_ad G 114)), (1, .int (nI (u + 40))), (2, .int (bI po)), (3, .int x), (4, .int (nI tf)), (5, .int (nI c))]) C N dX11_ends_186 (i := 8) (by decide) rfl ?_
            have hn : eN o po (bs.length - a) = (u + 40) - 40 := by rw [ho]; show u = _; omega
            have he : eH po = 48 := by rw [eH, if_pos hpo]
            refine TW.sS (S' := PU (tw_uI (EF B tf c s g x a) 114 24 (nI (eH po + 0))) (upd (upd (upd (upd f 4 (nI ((((u + 40) - 40) / 256) % 256))) 5 (nI (((u + 40) - 40) % 256))) 44 (nI ((((u + 40) - 40) / 256) % 256))) 45 (nI (((u + 40) - 40) % 256))) bs.length a) (by rw [he]) ?_
            refine TW.c (L' := [(8, .int (nI 0)), (6, .int (nI (bs.length - a))), (0, .ref (tw_ad G 114))]) (by simp) ?_
            exact loop _ (by rw [hn]; exact fun h => by omega) (by rw [hn]; exact BK_cg (BK_e (be22 _) (BK_2 (f := f) (a := 4))) (fun q h3 h4 => by simp only [be_len] at h4; simp only [upd, show ¬ q = 45 by omega, show ¬ q = 44 by omega, if_false])) (by rw [hn]; exact (fun _ => BK_e (be22 _) (BK_2 (a := 44)))) (fun q k1 k2 k3 => by have k4 := k3 hpo; simp only [upd, show ¬ q = 45 by omega, show ¬ q = 44 by omega, show ¬ q = 5 by omega, show ¬ q = 4 by omega, if_false]) (bs.length - a) 0 _ (by omega) (BK_nil _ _) (fun q _ => rfl)
        · skip
          exfalso
          omega
      · exact absurd trivial (by simp at c19)
