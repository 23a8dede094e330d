theorem or96d : ∀ x, x < 16 → 96 ||| x = 96 + x := by decide
theorem or16d : ∀ x, x < 16 → ∀ y, y < 16 → (x * 16) ||| y = x * 16 + y := by decide
theorem ff4 {t l : Nat} (ht : t ≤ 255) (hl : l ≤ 1048575) : be (ff t l) 4 = [(96 ||| (t / 16)) % 256, (((t % 16) * 16) ||| (l / 65536)) % 256, (l / 256) % 256, l % 256] := by
  rw [or96d _ (by omega), or16d _ (by omega) _ (by omega)]
  show [ff t l / 2 ^ 24 % 256, ff t l / 2 ^ 16 % 256, ff t l / 2 ^ 8 % 256, ff t l / 2 ^ 0 % 256] = _
  have hf : ff t l = 1610612736 + t * 1048576 + l := by unfold ff; omega
  rw [hf]
  simp only [List.cons.injEq, and_true]
  refine ⟨?_, ?_, ?_, ?_⟩ <;> omega
theorem hd_eq {tp : List Nat} {t l m kd hp a1 a2 a3 a4 : Nat} (ht : t ≤ 255) (hl : l ≤ 1048575) : (((((((((((tp ++ [(96 ||| (t / 16)) % 256]) ++ [(((t % 16) * 16) ||| (l / 65536)) % 256]) ++ [(l / 256) % 256]) ++ [l % 256]) ++ [(m / 256) % 256]) ++ [m % 256]) ++ [kd % 256]) ++ [hp % 256]) ++ be a1 8) ++ be a2 8) ++ be a3 8) ++ be a4 8 = tp ++ be (ff t l) 4 ++ be m 2 ++ [kd % 256] ++ [hp % 256] ++ be a1 8 ++ be a2 8 ++ be a3 8 ++ be a4 8 := by
  rw [ff4 ht hl]
  have e2 : be m 2 = [m / 2 ^ 8 % 256, m / 2 ^ 0 % 256] := rfl
  rw [e2]
  simp only [List.append_assoc, List.cons_append, List.nil_append, Nat.pow_zero, Nat.div_one, Nat.reducePow]
theorem c_X11_head {G : tw_G} (hM : tw_mG G) {S : tw_S} {K : kN} {tp ot : List Nat} {fr : List (List Nat)} {T : Nat → Int32} {hl : List mE} {ck wh dr la an : Nat} (hI : MI S K tp ot fr T hl ck wh dr la an) {t l m kd hp : Nat} (ht : t < 2 ^ 32) (hl2 : l < 2 ^ 32) (hm : m < 2 ^ 32) (hk : kd < 2 ^ 32) (hh : hp < 2 ^ 32) {a1 a2 a3 a4 : Nat} (htl : tp.length ≤ 640) : tw_M G yX11_head cX11_head 14 (some .int) 2 44 [.ref (tw_ad G 114), .int (nI t), .int (nI l), .int (nI m), .int (nI kd), .int (nI hp), .long (lN a1), .long (lN a2), .long (lN a3), .long (lN a4)] S ri_I (fun v S' => if t ≤ 255 ∧ l ≤ 1048575 ∧ m ≤ 560 ∧ kd ≤ 255 ∧ hp ≤ 255 then (if 40 + tp.length ≤ 640 then v = nI (tp ++ be (ff t l) 4 ++ be m 2 ++ [kd % 256] ++ [hp % 256] ++ be a1 8 ++ be a2 8 ++ be a3 8 ++ be a4 8).length ∧ MI S' K (tp ++ be (ff t l) 4 ++ be m 2 ++ [kd % 256] ++ [hp % 256] ++ be a1 8 ++ be a2 8 ++ be a3 8 ++ be a4 8) ot fr T hl ck wh dr la an else v = -3 ∧ S = S') else v = -1 ∧ S = S') := by
  refine tw_M.of (L := [(0, .ref (tw_ad G 114)), (1, .int (nI t)), (2, .int (nI l)), (3, .int (nI m)), (4, .int (nI kd)), (5, .int (nI hp)), (6, .long (lN a1)), (8, .long (lN a2)), (10, .long (lN a3)), (12, .long (lN a4))]) (by decide) (Nat.le_of_ble_eq_true rfl) rfl (fun X C N Q => ?_)
  have C : tw_C G X cX11_head RX11 := C
  refine tw_iload_n C dX11_head_0 1 rfl ?_
  refine tw_iconst C dX11_head_1 (v := nI 0) (by decide) ?_
  refine tw_sipush C dX11_head_2 (v := nI 255) (by decide) ?_
  refine tw_callS (As := [.int (nI t), .int (nI 0), .int (nI 255)]) (rest := []) C N (c_X11_in1 (S := S) (v := t) (lo := 0) (hi := 255) (by omega) (by omega) (by omega)) mm_X11_in wd_135 rfl (by decide) rfl (Nat.le_of_ble_eq_true rfl) dX11_head_5 ?_
  rintro _ _ ⟨rfl, rfl⟩
  show TW G X S [(0, .ref (tw_ad G 114)), (1, .int (nI t)), (2, .int (nI l)), (3, .int (nI m)), (4, .int (nI kd)), (5, .int (nI hp)), (6, .long (lN a1)), (8, .long (lN a2)), (10, .long (lN a3)), (12, .long (lN a4))] 8 [.int (bI (decide (0 ≤ t ∧ t ≤ 255)))]
  refine tb_if_eq C dX11_head_8 (tgt := 56) (by decide) (fun cg1 => ?_) (fun cg1 => ?_)
  · have := of_decide_eq_false cg1
    refine tw_iconst C dX11_head_56 (v := (-1)) (by decide) ?_
    exact tw_ireturn C Q dX11_head_57 rfl rfl rfl (by rw [if_neg (by rintro ⟨h1, h2, h3, h4, h5⟩; simp only [decide_eq_false_iff_not, Nat.zero_le, true_and] at *; omega)]; exact ⟨rfl, rfl⟩)
  · have g1 : t ≤ 255 := (of_decide_eq_true cg1).2
    refine tw_iload_n C dX11_head_11 2 rfl ?_
    refine tw_iconst C dX11_head_12 (v := nI 0) (by decide) ?_
    refine tw_ldc C dX11_head_13 wd_212 (w := nI 1048575) (by decide) ?_
    refine tw_callS (As := [.int (nI l), .int (nI 0), .int (nI 1048575)]) (rest := []) C N (c_X11_in1 (S := S) (v := l) (lo := 0) (hi := 1048575) (by omega) (by omega) (by omega)) mm_X11_in wd_135 rfl (by decide) rfl (Nat.le_of_ble_eq_true rfl) dX11_head_15 ?_
    rintro _ _ ⟨rfl, rfl⟩
    show TW G X S [(0, .ref (tw_ad G 114)), (1, .int (nI t)), (2, .int (nI l)), (3, .int (nI m)), (4, .int (nI kd)), (5, .int (nI hp)), (6, .long (lN a1)), (8, .long (lN a2)), (10, .long (lN a3)), (12, .long (lN a4))] 18 [.int (bI (decide (0 ≤ l ∧ l ≤ 1048575)))]
    refine tb_if_eq C dX11_head_18 (tgt := 56) (by decide) (fun cg2 => ?_) (fun cg2 => ?_)
    · have := of_decide_eq_false cg2
      refine tw_iconst C dX11_head_56 (v := (-1)) (by decide) ?_
      exact tw_ireturn C Q dX11_head_57 rfl rfl rfl (by rw [if_neg (by rintro ⟨h1, h2, h3, h4, h5⟩; simp only [decide_eq_false_iff_not, Nat.zero_le, true_and] at *; omega)]; exact ⟨rfl, rfl⟩)
    · have g2 : l ≤ 1048575 := (of_decide_eq_true cg2).2
      refine tw_iload_n C dX11_head_21 3 rfl ?_
      refine tw_iconst C dX11_head_22 (v := nI 0) (by decide) ?_
      refine tw_sipush C dX11_head_23 (v := nI 560) (by decide) ?_
      refine tw_callS (As := [.int (nI m), .int (nI 0), .int (nI 560)]) (rest := []) C N (c_X11_in1 (S := S) (v := m) (lo := 0) (hi := 560) (by omega) (by omega) (by omega)) mm_X11_in wd_135 rfl (by decide) rfl (Nat.le_of_ble_eq_true rfl) dX11_head_26 ?_
      rintro _ _ ⟨rfl, rfl⟩
      show TW G X S [(0, .ref (tw_ad G 114)), (1, .int (nI t)), (2, .int (nI l)), (3, .int (nI m)), (4, .int (nI kd)), (5, .int (nI hp)), (6, .long (lN a1)), (8, .long (lN a2)), (10, .long (lN a3)), (12, .long (lN a4))] 29 [.int (bI (decide (0 ≤ m ∧ m ≤ 560)))]
      refine tb_if_eq C dX11_head_29 (tgt := 56) (by decide) (fun cg3 => ?_) (fun cg3 => ?_)
      · have := of_decide_eq_false cg3
        refine tw_iconst C dX11_head_56 (v := (-1)) (by decide) ?_
        exact tw_ireturn C Q dX11_head_57 rfl rfl rfl (by rw [if_neg (by rintro ⟨h1, h2, h3, h4, h5⟩; simp only [decide_eq_false_iff_not, Nat.zero_le, true_and] at *; omega)]; exact ⟨rfl, rfl⟩)
      · have g3 : m ≤ 560 := (of_decide_eq_true cg3).2
        refine tw_iload C dX11_head_32 4 rfl ?_
        refine tw_iconst C dX11_head_34 (v := nI 0) (by decide) ?_
        refine tw_sipush C dX11_head_35 (v := nI 255) (by decide) ?_
        refine tw_callS (As := [.int (nI kd), .int (nI 0), .int (nI 255)]) (rest := []) C N (c_X11_in1 (S := S) (v := kd) (lo := 0) (hi := 255) (by omega) (by omega) (by omega)) mm_X11_in wd_135 rfl (by decide) rfl (Nat.le_of_ble_eq_true rfl) dX11_head_38 ?_
        rintro _ _ ⟨rfl, rfl⟩
        show TW G X S [(0, .ref (tw_ad G 114)), (1, .int (nI t)), (2, .int (nI l)), (3, .int (nI m)), (4, .int (nI kd)), (5, .int (nI hp)), (6, .long (lN a1)), (8, .long (lN a2)), (10, .long (lN a3)), (12, .long (lN a4))] 41 [.int (bI (decide (0 ≤ kd ∧ kd ≤ 255)))]
        refine tb_if_eq C dX11_head_41 (tgt := 56) (by decide) (fun cg4 => ?_) (fun cg4 => ?_)
        · have := of_decide_eq_false cg4
          refine tw_iconst C dX11_head_56 (v := (-1)) (by decide) ?_
          exact tw_ireturn C Q dX11_head_57 rfl rfl rfl (by rw [if_neg (by rintro ⟨h1, h2, h3, h4, h5⟩; simp only [decide_eq_false_iff_not, Nat.zero_le, true_and] at *; omega)]; exact ⟨rfl, rfl⟩)
        · have g4 : kd ≤ 255 := (of_decide_eq_true cg4).2
          refine tw_iload C dX11_head_44 5 rfl ?_
          refine tw_iconst C dX11_head_46 (v := nI 0) (by decide) ?_
          refine tw_sipush C dX11_head_47 (v := nI 255) (by decide) ?_
          refine tw_callS (As := [.int (nI hp), .int (nI 0), .int (nI 255)]) (rest := []) C N (c_X11_in1 (S := S) (v := hp) (lo := 0) (hi := 255) (by omega) (by omega) (by omega)) mm_X11_in wd_135 rfl (by decide) rfl (Nat.le_of_ble_eq_true rfl) dX11_head_50 ?_
          rintro _ _ ⟨rfl, rfl⟩
          show TW G X S [(0, .ref (tw_ad G 114)), (1, .int (nI t)), (2, .int (nI l)), (3, .int (nI m)), (4, .int (nI kd)), (5, .int (nI hp)), (6, .long (lN a1)), (8, .long (lN a2)), (10, .long (lN a3)), (12, .long (lN a4))] 53 [.int (bI (decide (0 ≤ hp ∧ hp ≤ 255)))]
          refine tb_if_ne C dX11_head_53 (tgt := 58) (by decide) (fun cg5 => ?_) (fun cg5 => ?_)
          · have g5 : hp ≤ 255 := (of_decide_eq_true cg5).2
            refine tw_aload_n C dX11_head_58 0 rfl ?_
            refine tw_getI (v := nI tp.length) (k := 4) C dX11_head_59 fc_X11 sh_114 (hM 114 (by decide) (by decide)) rfl (by decide) wd_189 hI.2.1.2 ?_
            refine tw_bipush C dX11_head_62 (v := nI 40) (by decide) ?_
            refine tw_iadd C dX11_head_64 (v := nI (tp.length + 40)) (nI_add _ _) ?_
            refine tw_sipush C dX11_head_65 (v := nI 640) (by decide) ?_
            refine tn_icmp_le C dX11_head_68 (tgt := 74) (by decide) (by omega) (by omega) (fun c6 => ?_) (fun c6 => ?_)
            · skip
              refine TW.sS (S' := MU S 118 4 (tw_A S 118) tp) (MU_self hI.2.1.2) ?_
              refine tw_aload_n C dX11_head_74 0 rfl ?_
              refine tw_bipush C dX11_head_75 (v := nI 96) (by decide) ?_
              refine tw_iload_n C dX11_head_77 1 rfl ?_
              refine tw_iconst C dX11_head_78 (v := nI 4) (by decide) ?_
              refine tw_ishr C dX11_head_79 (v := nI (t / 16)) (nI_shr (by omega) 4 (by decide)) ?_
              refine tw_ior C dX11_head_80 (v := nI (96 ||| (t / 16))) (nI_or _ _) ?_
              refine tw_callV (As := [.int (nI (96 ||| (t / 16)))]) (rest := []) C N (c_X11_lay hM (B := S) (f := tw_A S 118) (xs := tp) hI.2.1.1 (by first | omega | (simp only [List.length_append, List.length_take, be_len, List.length_cons, List.length_nil]; omega)) (b := 96 ||| (t / 16))) mm_X11_lay wd_190 rfl (hM 114 (by decide) (by decide)) sh_114 rfl (by decide) rfl (Nat.le_of_ble_eq_true rfl) dX11_head_81 ?_
              rintro _ _ ⟨f7, rfl, hf7⟩
              show TW G X (MU S 118 4 f7 (tp ++ [(96 ||| (t / 16)) % 256])) [(0, .ref (tw_ad G 114)), (1, .int (nI t)), (2, .int (nI l)), (3, .int (nI m)), (4, .int (nI kd)), (5, .int (nI hp)), (6, .long (lN a1)), (8, .long (lN a2)), (10, .long (lN a3)), (12, .long (lN a4))] 84 []
              refine tw_aload_n C dX11_head_84 0 rfl ?_
              refine tw_iload_n C dX11_head_85 1 rfl ?_
              refine tw_bipush C dX11_head_86 (v := nI 15) (by decide) ?_
              refine tw_iand C dX11_head_88 (v := nI (t % 16)) (nI_andm 4 (by decide)) ?_
              refine tw_iconst C dX11_head_89 (v := nI 4) (by decide) ?_
              refine tw_ishl C dX11_head_90 (v := nI ((t % 16) * 16)) (nI_shl _ 4 (by decide)) ?_
              refine tw_iload_n C dX11_head_91 2 rfl ?_
              refine tw_bipush C dX11_head_92 (v := nI 16) (by decide) ?_
              refine tw_ishr C dX11_head_94 (v := nI (l / 65536)) (nI_shr (by omega) 16 (by decide)) ?_
              refine tw_ior C dX11_head_95 (v := nI (((t % 16) * 16) ||| (l / 65536))) (nI_or _ _) ?_
              refine tw_callV (As := [.int (nI (((t % 16) * 16) ||| (l / 65536)))]) (rest := []) C N (c_X11_lay hM (B := S) (f := f7) (xs := tp ++ [(96 ||| (t / 16)) % 256]) hf7 (by first | omega | (simp only [List.length_append, List.length_take, be_len, List.length_cons, List.length_nil]; omega)) (b := ((t % 16) * 16) ||| (l / 65536))) mm_X11_lay wd_190 rfl (hM 114 (by decide) (by decide)) sh_114 rfl (by decide) rfl (Nat.le_of_ble_eq_true rfl) dX11_head_96 ?_
              rintro _ _ ⟨f9, rfl, hf9⟩
              show TW G X (MU S 118 4 f9 ((tp ++ [(96 ||| (t / 16)) % 256]) ++ [(((t % 16) * 16) ||| (l / 65536)) % 256])) [(0, .ref (tw_ad G 114)), (1, .int (nI t)), (2, .int (nI l)), (3, .int (nI m)), (4, .int (nI kd)), (5, .int (nI hp)), (6, .long (lN a1)), (8, .long (lN a2)), (10, .long (lN a3)), (12, .long (lN a4))] 99 []
              refine tw_aload_n C dX11_head_99 0 rfl ?_
              refine tw_iload_n C dX11_head_100 2 rfl ?_
              refine tw_bipush C dX11_head_101 (v := nI 8) (by decide) ?_
              refine tw_ishr C dX11_head_103 (v := nI (l / 256)) (nI_shr (by omega) 8 (by decide)) ?_
              refine tw_callV (As := [.int (nI (l / 256))]) (rest := []) C N (c_X11_lay hM (B := S) (f := f9) (xs := (tp ++ [(96 ||| (t / 16)) % 256]) ++ [(((t % 16) * 16) ||| (l / 65536)) % 256]) hf9 (by first | omega | (simp only [List.length_append, List.length_take, be_len, List.length_cons, List.length_nil]; omega)) (b := l / 256)) mm_X11_lay wd_190 rfl (hM 114 (by decide) (by decide)) sh_114 rfl (by decide) rfl (Nat.le_of_ble_eq_true rfl) dX11_head_104 ?_
              rintro _ _ ⟨f11, rfl, hf11⟩
              show TW G X (MU S 118 4 f11 (((tp ++ [(96 ||| (t / 16)) % 256]) ++ [(((t % 16) * 16) ||| (l / 65536)) % 256]) ++ [(l / 256) % 256])) [(0, .ref (tw_ad G 114)), (1, .int (nI t)), (2, .int (nI l)), (3, .int (nI m)), (4, .int (nI kd)), (5, .int (nI hp)), (6, .long (lN a1)), (8, .long (lN a2)), (10, .long (lN a3)), (12, .long (lN a4))] 107 []
              refine tw_aload_n C dX11_head_107 0 rfl ?_
              refine tw_iload_n C dX11_head_108 2 rfl ?_
              refine tw_callV (As := [.int (nI l)]) (rest := []) C N (c_X11_lay hM (B := S) (f := f11) (xs := ((tp ++ [(96 ||| (t / 16)) % 256]) ++ [(((t % 16) * 16) ||| (l / 65536)) % 256]) ++ [(l / 256) % 256]) hf11 (by first | omega | (simp only [List.length_append, List.length_take, be_len, List.length_cons, List.length_nil]; omega)) (b := l)) mm_X11_lay wd_190 rfl (hM 114 (by decide) (by decide)) sh_114 rfl (by decide) rfl (Nat.le_of_ble_eq_true rfl) dX11_head_109 ?_
              rintro _ _ ⟨f13, rfl, hf13⟩
              show TW G X (MU S 118 4 f13 ((((tp ++ [(96 ||| (t / 16)) % 256]) ++ [(((t % 16) * 16) ||| (l / 65536)) % 256]) ++ [(l / 256) % 256]) ++ [l % 256])) [(0, .ref (tw_ad G 114)), (1, .int (nI t)), (2, .int (nI l)), (3, .int (nI m)), (4, .int (nI kd)), (5, .int (nI hp)), (6, .long (lN a1)), (8, .long (lN a2)), (10, .long (lN a3)), (12, .long (lN a4))] 112 []
              refine tw_aload_n C dX11_head_112 0 rfl ?_
              refine tw_iload_n C dX11_head_113 3 rfl ?_
              refine tw_bipush C dX11_head_114 (v := nI 8) (by decide) ?_
              refine tw_ishr C dX11_head_116 (v := nI (m / 256)) (nI_shr (by omega) 8 (by decide)) ?_
              refine tw_callV (As := [.int (nI (m / 256))]) (rest := []) C N (c_X11_lay hM (B := S) (f := f13) (xs := (((tp ++ [(96 ||| (t / 16)) % 256]) ++ [(((t % 16) * 16) ||| (l / 65536)) % 256]) ++ [(l / 256) % 256]) ++ [l % 256]) hf13 (by first | omega | (simp only [List.length_append, List.length_take, be_len, List.length_cons, List.length_nil]; omega)) (b := m / 256)) mm_X11_lay wd_190 rfl (hM 114 (by decide) (by decide)) sh_114 rfl (by decide) rfl (Nat.le_of_ble_eq_true rfl) dX11_head_117 ?_
              rintro _ _ ⟨f15, rfl, hf15⟩
              show TW G X (MU S 118 4 f15 (((((tp ++ [(96 ||| (t / 16)) % 256]) ++ [(((t % 16) * 16) ||| (l / 65536)) % 256]) ++ [(l / 256) % 256]) ++ [l % 256]) ++ [(m / 256) % 256])) [(0, .ref (tw_ad G 114)), (1, .int (nI t)), (2, .int (nI l)), (3, .int (nI m)), (4, .int (nI kd)), (5, .int (nI hp)), (6, .long (lN a1)), (8, .long (lN a2)), (10, .long (lN a3)), (12, .long (lN a4))] 120 []
              refine tw_aload_n C dX11_head_120 0 rfl ?_
              refine tw_iload_n C dX11_head_121 3 rfl ?_
              refine tw_callV (As := [.int (nI m)]) (rest := []) C N (c_X11_lay hM (B := S) (f := f15) (xs := ((((tp ++ [(96 ||| (t / 16)) % 256]) ++ [(((t % 16) * 16) ||| (l / 65536)) % 256]) ++ [(l / 256) % 256]) ++ [l % 256]) ++ [(m / 256) % 256]) hf15 (by first | omega | (simp only [List.length_append, List.length_take, be_len, List.length_cons, List.length_nil]; omega)) (b := m)) mm_X11_lay wd_190 rfl (hM 114 (by decide) (by decide)) sh_114 rfl (by decide) rfl (Nat.le_of_ble_eq_true rfl) dX11_head_122 ?_
              rintro _ _ ⟨f17, rfl, hf17⟩
              show TW G X (MU S 118 4 f17 ((((((tp ++ [(96 ||| (t / 16)) % 256]) ++ [(((t % 16) * 16) ||| (l / 65536)) % 256]) ++ [(l / 256) % 256]) ++ [l % 256]) ++ [(m / 256) % 256]) ++ [m % 256])) [(0, .ref (tw_ad G 114)), (1, .int (nI t)), (2, .int (nI l)), (3, .int (nI m)), (4, .int (nI kd)), (5, .int (nI hp)), (6, .long (lN a1)), (8, .long (lN a2)), (10, .long (lN a3)), (12, .long (lN a4))] 125 []
              refine tw_aload_n C dX11_head_125 0 rfl ?_
              refine tw_iload C dX11_head_126 4 rfl ?_
              refine tw_callV (As := [.int (nI kd)]) (rest := []) C N (c_X11_lay hM (B := S) (f := f17) (xs := (((((tp ++ [(96 ||| (t / 16)) % 256]) ++ [(((t % 16) * 16) ||| (l / 65536)) % 256]) ++ [(l / 256) % 256]) ++ [l % 256]) ++ [(m / 256) % 256]) ++ [m % 256]) hf17 (by first | omega | (simp only [List.length_append, List.length_take, be_len, List.length_cons, List.length_nil]; omega)) (b := kd)) mm_X11_lay wd_190 rfl (hM 114 (by decide) (by decide)) sh_114 rfl (by decide) rfl (Nat.le_of_ble_eq_true rfl) dX11_head_128 ?_
              rintro _ _ ⟨f19, rfl, hf19⟩
              show TW G X (MU S 118 4 f19 (((((((tp ++ [(96 ||| (t / 16)) % 256]) ++ [(((t % 16) * 16) ||| (l / 65536)) % 256]) ++ [(l / 256) % 256]) ++ [l % 256]) ++ [(m / 256) % 256]) ++ [m % 256]) ++ [kd % 256])) [(0, .ref (tw_ad G 114)), (1, .int (nI t)), (2, .int (nI l)), (3, .int (nI m)), (4, .int (nI kd)), (5, .int (nI hp)), (6, .long (lN a1)), (8, .long (lN a2)), (10, .long (lN a3)), (12, .long (lN a4))] 131 []
              refine tw_aload_n C dX11_head_131 0 rfl ?_
              refine tw_iload C dX11_head_132 5 rfl ?_
              refine tw_callV (As := [.int (nI hp)]) (rest := []) C N (c_X11_lay hM (B := S) (f := f19) (xs := ((((((tp ++ [(96 ||| (t / 16)) % 256]) ++ [(((t % 16) * 16) ||| (l / 65536)) % 256]) ++ [(l / 256) % 256]) ++ [l % 256]) ++ [(m / 256) % 256]) ++ [m % 256]) ++ [kd % 256]) hf19 (by first | omega | (simp only [List.length_append, List.length_take, be_len, List.length_cons, List.length_nil]; omega)) (b := hp)) mm_X11_lay wd_190 rfl (hM 114 (by decide) (by decide)) sh_114 rfl (by decide) rfl (Nat.le_of_ble_eq_true rfl) dX11_head_134 ?_
              rintro _ _ ⟨f21, rfl, hf21⟩
              show TW G X (MU S 118 4 f21 ((((((((tp ++ [(96 ||| (t / 16)) % 256]) ++ [(((t % 16) * 16) ||| (l / 65536)) % 256]) ++ [(l / 256) % 256]) ++ [l % 256]) ++ [(m / 256) % 256]) ++ [m % 256]) ++ [kd % 256]) ++ [hp % 256])) [(0, .ref (tw_ad G 114)), (1, .int (nI t)), (2, .int (nI l)), (3, .int (nI m)), (4, .int (nI kd)), (5, .int (nI hp)), (6, .long (lN a1)), (8, .long (lN a2)), (10, .long (lN a3)), (12, .long (lN a4))] 137 []
              refine tw_aload_n C dX11_head_137 0 rfl ?_
              refine tw_lload C dX11_head_138 6 rfl ?_
              refine tw_callV (As := [.long (lN a1)]) (rest := []) C N (c_X11_layLong hM (B := S) (f := f21) (xs := (((((((tp ++ [(96 ||| (t / 16)) % 256]) ++ [(((t % 16) * 16) ||| (l / 65536)) % 256]) ++ [(l / 256) % 256]) ++ [l % 256]) ++ [(m / 256) % 256]) ++ [m % 256]) ++ [kd % 256]) ++ [hp % 256]) hf21 (by first | omega | (simp only [List.length_append, List.length_take, be_len, List.length_cons, List.length_nil]; omega)) (u := a1)) mm_X11_layLong wd_213 rfl (hM 114 (by decide) (by decide)) sh_114 rfl (by decide) rfl (Nat.le_of_ble_eq_true rfl) dX11_head_140 ?_
              rintro _ _ ⟨f23, rfl, hf23⟩
              show TW G X (MU S 118 4 f23 (((((((((tp ++ [(96 ||| (t / 16)) % 256]) ++ [(((t % 16) * 16) ||| (l / 65536)) % 256]) ++ [(l / 256) % 256]) ++ [l % 256]) ++ [(m / 256) % 256]) ++ [m % 256]) ++ [kd % 256]) ++ [hp % 256]) ++ be a1 8)) [(0, .ref (tw_ad G 114)), (1, .int (nI t)), (2, .int (nI l)), (3, .int (nI m)), (4, .int (nI kd)), (5, .int (nI hp)), (6, .long (lN a1)), (8, .long (lN a2)), (10, .long (lN a3)), (12, .long (lN a4))] 143 []
              refine tw_aload_n C dX11_head_143 0 rfl ?_
              refine tw_lload C dX11_head_144 7 rfl ?_
              refine tw_callV (As := [.long (lN a2)]) (rest := []) C N (c_X11_layLong hM (B := S) (f := f23) (xs := ((((((((tp ++ [(96 ||| (t / 16)) % 256]) ++ [(((t % 16) * 16) ||| (l / 65536)) % 256]) ++ [(l / 256) % 256]) ++ [l % 256]) ++ [(m / 256) % 256]) ++ [m % 256]) ++ [kd % 256]) ++ [hp % 256]) ++ be a1 8) hf23 (by first | omega | (simp only [List.length_append, List.length_take, be_len, List.length_cons, List.length_nil]; omega)) (u := a2)) mm_X11_layLong wd_213 rfl (hM 114 (by decide) (by decide)) sh_114 rfl (by decide) rfl (Nat.le_of_ble_eq_true rfl) dX11_head_146 ?_
              rintro _ _ ⟨f25, rfl, hf25⟩
              show TW G X (MU S 118 4 f25 ((((((((((tp ++ [(96 ||| (t / 16)) % 256]) ++ [(((t % 16) * 16) ||| (l / 65536)) % 256]) ++ [(l / 256) % 256]) ++ [l % 256]) ++ [(m / 256) % 256]) ++ [m % 256]) ++ [kd % 256]) ++ [hp % 256]) ++ be a1 8) ++ be a2 8)) [(0, .ref (tw_ad G 114)), (1, .int (nI t)), (2, .int (nI l)), (3, .int (nI m)), (4, .int (nI kd)), (5, .int (nI hp)), (6, .long (lN a1)), (8, .long (lN a2)), (10, .long (lN a3)), (12, .long (lN a4))] 149 []
              refine tw_aload_n C dX11_head_149 0 rfl ?_
              refine tw_lload C dX11_head_150 8 rfl ?_
              refine tw_callV (As := [.long (lN a3)]) (rest := []) C N (c_X11_layLong hM (B := S) (f := f25) (xs := (((((((((tp ++ [(96 ||| (t / 16)) % 256]) ++ [(((t % 16) * 16) ||| (l / 65536)) % 256]) ++ [(l / 256) % 256]) ++ [l % 256]) ++ [(m / 256) % 256]) ++ [m % 256]) ++ [kd % 256]) ++ [hp % 256]) ++ be a1 8) ++ be a2 8) hf25 (by first | omega | (simp only [List.length_append, List.length_take, be_len, List.length_cons, List.length_nil]; omega)) (u := a3)) mm_X11_layLong wd_213 rfl (hM 114 (by decide) (by decide)) sh_114 rfl (by decide) rfl (Nat.le_of_ble_eq_true rfl) dX11_head_152 ?_
              rintro _ _ ⟨f27, rfl, hf27⟩
              show TW G X (MU S 118 4 f27 (((((((((((tp ++ [(96 ||| (t / 16)) % 256]) ++ [(((t % 16) * 16) ||| (l / 65536)) % 256]) ++ [(l / 256) % 256]) ++ [l % 256]) ++ [(m / 256) % 256]) ++ [m % 256]) ++ [kd % 256]) ++ [hp % 256]) ++ be a1 8) ++ be a2 8) ++ be a3 8)) [(0, .ref (tw_ad G 114)), (1, .int (nI t)), (2, .int (nI l)), (3, .int (nI m)), (4, .int (nI kd)), (5, .int (nI hp)), (6, .long (lN a1)), (8, .long (lN a2)), (10, .long (lN a3)), (12, .long (lN a4))] 155 []
              refine tw_aload_n C dX11_head_155 0 rfl ?_
              refine tw_lload C dX11_head_156 9 rfl ?_
              refine tw_callV (As := [.long (lN a4)]) (rest := []) C N (c_X11_layLong hM (B := S) (f := f27) (xs := ((((((((((tp ++ [(96 ||| (t / 16)) % 256]) ++ [(((t % 16) * 16) ||| (l / 65536)) % 256]) ++ [(l / 256) % 256]) ++ [l % 256]) ++ [(m / 256) % 256]) ++ [m % 256]) ++ [kd % 256]) ++ [hp % 256]) ++ be a1 8) ++ be a2 8) ++ be a3 8) hf27 (by first | omega | (simp only [List.length_append, List.length_take, be_len, List.length_cons, List.length_nil]; omega)) (u := a4)) mm_X11_layLong wd_213 rfl (hM 114 (by decide) (by decide)) sh_114 rfl (by decide) rfl (Nat.le_of_ble_eq_true rfl) dX11_head_158 ?_
              rintro _ _ ⟨f29, rfl, hf29⟩
              show TW G X (MU S 118 4 f29 ((((((((((((tp ++ [(96 ||| (t / 16)) % 256]) ++ [(((t % 16) * 16) ||| (l / 65536)) % 256]) ++ [(l / 256) % 256]) ++ [l % 256]) ++ [(m / 256) % 256]) ++ [m % 256]) ++ [kd % 256]) ++ [hp % 256]) ++ be a1 8) ++ be a2 8) ++ be a3 8) ++ be a4 8)) [(0, .ref (tw_ad G 114)), (1, .int (nI t)), (2, .int (nI l)), (3, .int (nI m)), (4, .int (nI kd)), (5, .int (nI hp)), (6, .long (lN a1)), (8, .long (lN a2)), (10, .long (lN a3)), (12, .long (lN a4))] 161 []
              have hfl := hf29
              rw [hd_eq g1 g2] at hfl ⊢
              refine tw_aload_n C dX11_head_161 0 rfl ?_
              refine tw_getI (v := nI ((tp ++ be (ff t l) 4 ++ be m 2 ++ [kd % 256] ++ [hp % 256] ++ be a1 8 ++ be a2 8 ++ be a3 8 ++ be a4 8).length)) (k := 4) C dX11_head_162 fc_X11 sh_114 (hM 114 (by decide) (by decide)) rfl (by decide) wd_189 rfl ?_
              exact tw_ireturn C Q dX11_head_165 rfl rfl rfl (by rw [if_pos ⟨g1, g2, g3, g4, g5⟩, if_pos (by omega)]; exact ⟨rfl, MI_tp hI hfl⟩)
            · skip
              refine tw_bipush C dX11_head_71 (v := (-3)) (by decide) ?_
              exact tw_ireturn C Q dX11_head_73 rfl rfl rfl (by rw [if_pos ⟨g1, g2, g3, g4, g5⟩, if_neg (by omega)]; exact ⟨rfl, rfl⟩)
          · have := of_decide_eq_false cg5
            refine tw_iconst C dX11_head_56 (v := (-1)) (by decide) ?_
            exact tw_ireturn C Q dX11_head_57 rfl rfl rfl (by rw [if_neg (by rintro ⟨h1, h2, h3, h4, h5⟩; simp only [decide_eq_false_iff_not, Nat.zero_le, true_and] at *; omega)]; exact ⟨rfl, rfl⟩)
theorem mK_ctx {S : tw_S} {K : kN} {i u : Nat} {t : Bool} {f : Nat → Int32} (h : mK S K) (hi : i < 16) (hu : u < 2 ^ 64) (h1 : ∀ k, k < 8 → f (8 * i + k) = nI (u / 2 ^ (56 - 8 * k) % 256)) (h2 : ∀ j, j < 8 * i ∨ 8 * i + 8 ≤ j → f j = tw_A S 116 j) : mK (tw_wA (tw_uA S 115 i (bI t)) 116 f) (kCtx K i t u) := by
  refine ⟨fun j hj => ?_, fun j k hj hk => ?_, h.2.2.1, fun j => ?_, h.2.2.2.2⟩
  · show tw_A (tw_uA S 115 i (bI t)) 115 j = bI (if j = i then t else kT K j)
    rw [tq_A_uA]
    by_cases hji : j = i
    · simp [hji]
    · simp only [hji, and_false, if_false]; exact h.1 j hj
  · show f (8 * j + k) = nI ((if j = i then u else kV K j) / 2 ^ (56 - 8 * k) % 256)
    by_cases hji : j = i
    · rw [if_pos hji, hji]; exact h1 k hk
    · rw [if_neg hji, h2 _ (by omega)]; exact h.2.1 j k hj hk
  · show (if j = i then u else kV K j) < 2 ^ 64
    split
    · exact hu
    · exact h.2.2.2.1 j
theorem c_X11_context {G : tw_G} (hM : tw_mG G) {S : tw_S} {K : kN} {tp ot : List Nat} {fr : List (List Nat)} {T : Nat → Int32} {hl : List mE} {ck wh dr la an : Nat} (hI : MI S K tp ot fr T hl ck wh dr la an) {i : Nat} (hi : i < 2 ^ 32) {t : Bool} {u : Nat} (hu : u < 2 ^ 64) : tw_M G yX11_context cX11_context 7 (some .int) 1 22 [.ref (tw_ad G 114), .int (nI i), .int (bI t), .long (lN u)] S ri_I (fun v S' => if i < 16 then v = bI (kT K i) ∧ MI S' (kCtx K i t u) tp ot fr T hl ck wh dr la an else v = -1 ∧ S = S') := by
  refine tw_M.of (L := [(0, .ref (tw_ad G 114)), (1, .int (nI i)), (2, .int (bI t)), (3, .long (lN u))]) (by decide) (Nat.le_of_ble_eq_true rfl) rfl (fun X C N Q => ?_)
  have C : tw_C G X cX11_context RX11 := C
  have loop : i < 16 → ∀ (d : Nat) (k : Nat) (f : Nat → Int32) (_ : k + d = 8) (hf1 : ∀ j, j < k → f (8 * i + j) = nI (u / 2 ^ (56 - 8 * j) % 256)) (hf2 : ∀ j, j < 8 * i ∨ 8 * i + 8 ≤ j → f j = tw_A S 116 j), TW G X (tw_wA (tw_uA S 115 i (bI t)) 116 f) [(6, .int (nI k)), (5, .int (bI (kT K i))), (0, .ref (tw_ad G 114)), (1, .int (nI i)), (2, .int (bI t)), (3, .long (lN u))] 38 [] := by
    intro hle d
    induction d with
    | zero =>
      intro k f hk hf1 hf2
      refine tw_iload C dX11_context_38 0 rfl ?_
      refine tw_bipush C dX11_context_40 (v := nI 8) (by decide) ?_
      refine tn_icmp_ge C dX11_context_42 (tgt := 78) (by decide) (by omega) (by omega) (fun c1 => ?_) (fun c1 => ?_)
      · skip
        refine tw_iload C dX11_context_78 1 rfl ?_
        exact tw_ireturn C Q dX11_context_80 rfl rfl rfl (by rw [if_pos hle]; exact ⟨rfl, mK_ctx hI.1 hle hu (fun k hk => hf1 k (by omega)) (fun j hj => hf2 j (by omega)), hI.2⟩)
      · exact absurd c1 (by omega)
    | succ d ih =>
      intro k f hk hf1 hf2
      refine tw_iload C dX11_context_38 0 rfl ?_
      refine tw_bipush C dX11_context_40 (v := nI 8) (by decide) ?_
      refine tn_icmp_ge C dX11_context_42 (tgt := 78) (by decide) (by omega) (by omega) (fun c1 => ?_) (fun c1 => ?_)
      · exact absurd c1 (by omega)
      refine tw_aload_n C dX11_context_45 2 rfl ?_
      refine tw_getR (q := 116) (k := 1) C dX11_context_46 fc_X11 sh_114 (hM 114 (by decide) (by decide)) rfl (by decide) wd_112 ?_
      refine tw_bipush C dX11_context_49 (v := nI 8) (by decide) ?_
      refine tw_iload_n C dX11_context_51 3 rfl ?_
      refine tw_imul C dX11_context_52 (v := nI (8 * i)) (pk_mul _ _) ?_
      refine tw_iload C dX11_context_53 0 rfl ?_
      refine tw_iadd C dX11_context_55 (v := nI ((8 * i) + k)) (nI_add _ _) ?_
      refine tw_lload_n C dX11_context_56 5 rfl ?_
      refine tw_bipush C dX11_context_57 (v := nI 56) (by decide) ?_
      refine tw_bipush C dX11_context_59 (v := nI 8) (by decide) ?_
      refine tw_iload C dX11_context_61 0 rfl ?_
      refine tw_imul C dX11_context_63 (v := nI (8 * k)) (pk_mul _ _) ?_
      refine tw_isub C dX11_context_64 (v := nI (56 - (8 * k))) (pk_sub (by omega)) ?_
      refine tw_lshr C dX11_context_65 (v := lN u >>> ((nI (56 - 8 * k)).toInt64 &&& 63)) rfl ?_
      refine tw_ldc2 C dX11_context_66 wd_134 (w := lN 255) (by decide) ?_
      refine tw_land C dX11_context_69 (v := lN (u / 2 ^ (56 - 8 * k) % 256)) (lN_sar (by omega)) ?_
      refine tw_l2i C dX11_context_70 (v := nI (u / 2 ^ (56 - 8 * k) % 256)) (lN_i32 _) ?_
      refine tw_iast C dX11_context_71 sn_116 sa_116 (hM 116 (by decide) (by decide)) (by omega) (by decide) ?_
      refine tw_iinc (k := 0) (v := nI (k + 1)) (L' := [(6, .int (nI (k + 1))), (5, .int (bI (kT K i))), (0, .ref (tw_ad G 114)), (1, .int (nI i)), (2, .int (bI t)), (3, .long (lN u))]) C N dX11_context_72 rfl (tn_inc1 _) (by decide) rfl ?_
      refine tw_goto C dX11_context_75 (tgt := 38) (by decide) ?_
      rw [wA_uA]
      refine TW.c (L' := [(6, .int (nI (k + 1))), (5, .int (bI (kT K i))), (0, .ref (tw_ad G 114)), (1, .int (nI i)), (2, .int (bI t)), (3, .long (lN u))]) (by simp) ?_
      exact ih (k + 1) _ (by omega) (fun j hj => by
        by_cases hx : j = k
        · rw [hx]; simp [upd]
        · simp only [upd, show ¬ 8 * i + j = 8 * i + k by omega, if_false]; exact hf1 j (by omega)) (fun j hj => by simp only [upd, show ¬ j = 8 * i + k by omega, if_false]; exact hf2 j hj)
  refine tw_iload_n C dX11_context_0 1 rfl ?_
  refine tw_iconst C dX11_context_1 (v := nI 0) (by decide) ?_
  refine tw_bipush C dX11_context_2 (v := nI 15) (by decide) ?_
  refine tw_callS (As := [.int (nI i), .int (nI 0), .int (nI 15)]) (rest := []) C N (c_X11_in1 (S := S) (v := i) (lo := 0) (hi := 15) (by omega) (by omega) (by omega)) mm_X11_in wd_135 rfl (by decide) rfl (Nat.le_of_ble_eq_true rfl) dX11_context_4 ?_
  rintro _ _ ⟨rfl, rfl⟩
  show TW G X S [(0, .ref (tw_ad G 114)), (1, .int (nI i)), (2, .int (bI t)), (3, .long (lN u))] 7 [.int (bI (decide (0 ≤ i ∧ i ≤ 15)))]
  refine tb_if_ne C dX11_context_7 (tgt := 12) (by decide) (fun cg => ?_) (fun cg => ?_)
  · have hle : i < 16 := by have := of_decide_eq_true cg; omega
    refine tw_aload_n C dX11_context_12 0 rfl ?_
    refine tw_getR (q := 115) (k := 0) C dX11_context_13 fc_X11 sh_114 (hM 114 (by decide) (by decide)) rfl (by decide) wd_111 ?_
    refine tw_iload_n C dX11_context_16 1 rfl ?_
    refine tw_zald (v := bI (kT K i)) C dX11_context_17 sn_115 sa_115 (hM 115 (by decide) (by decide)) (by omega) (by decide) (hI.1.1 i hle) ?_
    refine tb_if_eq C dX11_context_18 (tgt := 25) (by decide) (fun cb => ?_) (fun cb => ?_)
    · skip
      refine tw_iconst C dX11_context_25 (v := nI 0) (by decide) ?_
      refine tw_istore (L' := [(5, .int (nI 0)), (0, .ref (tw_ad G 114)), (1, .int (nI i)), (2, .int (bI t)), (3, .long (lN u))]) C N dX11_context_26 (i := 5) (by decide) rfl ?_
      refine tw_aload_n C dX11_context_28 1 rfl ?_
      refine tw_getR (q := 115) (k := 0) C dX11_context_29 fc_X11 sh_114 (hM 114 (by decide) (by decide)) rfl (by decide) wd_111 ?_
      refine tw_iload_n C dX11_context_32 2 rfl ?_
      refine tw_iload_n C dX11_context_33 3 rfl ?_
      refine tw_zast (y := bI t) C dX11_context_34 sn_115 sa_115 (hM 115 (by decide) (by decide)) (by omega) (by decide) (bI_vp _) ?_
      refine tw_iconst C dX11_context_35 (v := nI 0) (by decide) ?_
      refine tw_istore (L' := [(6, .int (nI 0)), (5, .int (nI 0)), (0, .ref (tw_ad G 114)), (1, .int (nI i)), (2, .int (bI t)), (3, .long (lN u))]) C N dX11_context_36 (i := 6) (by decide) rfl ?_
      refine TW.sS (S' := tw_wA (tw_uA S 115 i (bI t)) 116 (tw_A (tw_uA S 115 i (bI t)) 116)) (wA_self _ 116).symm ?_
      refine TW.c (L' := [(6, .int (nI 0)), (5, .int (bI (kT K i))), (0, .ref (tw_ad G 114)), (1, .int (nI i)), (2, .int (bI t)), (3, .long (lN u))]) (by simp [cb]; first | rfl | done) ?_
      exact loop hle 8 0 _ rfl (fun j hj => absurd hj (by omega)) (fun j hj => rfl)
    · skip
      refine tw_iconst C dX11_context_21 (v := nI 1) (by decide) ?_
      refine tw_goto C dX11_context_22 (tgt := 26) (by decide) ?_
      refine tw_istore (L' := [(5, .int (nI 1)), (0, .ref (tw_ad G 114)), (1, .int (nI i)), (2, .int (bI t)), (3, .long (lN u))]) C N dX11_context_26 (i := 5) (by decide) rfl ?_
      refine tw_aload_n C dX11_context_28 1 rfl ?_
      refine tw_getR (q := 115) (k := 0) C dX11_context_29 fc_X11 sh_114 (hM 114 (by decide) (by decide)) rfl (by decide) wd_111 ?_
      refine tw_iload_n C dX11_context_32 2 rfl ?_
      refine tw_iload_n C dX11_context_33 3 rfl ?_
      refine tw_zast (y := bI t) C dX11_context_34 sn_115 sa_115 (hM 115 (by decide) (by decide)) (by omega) (by decide) (bI_vp _) ?_
      refine tw_iconst C dX11_context_35 (v := nI 0) (by decide) ?_
      refine tw_istore (L' := [(6, .int (nI 0)), (5, .int (nI 1)), (0, .ref (tw_ad G 114)), (1, .int (nI i)), (2, .int (bI t)), (3, .long (lN u))]) C N dX11_context_36 (i := 6) (by decide) rfl ?_
      refine TW.sS (S' := tw_wA (tw_uA S 115 i (bI t)) 116 (tw_A (tw_uA S 115 i (bI t)) 116)) (wA_self _ 116).symm ?_
      refine TW.c (L' := [(6, .int (nI 0)), (5, .int (bI (kT K i))), (0, .ref (tw_ad G 114)), (1, .int (nI i)), (2, .int (bI t)), (3, .long (lN u))]) (by simp [cb]; first | rfl | done) ?_
      exact loop hle 8 0 _ rfl (fun j hj => absurd hj (by omega)) (fun j hj => rfl)
  · skip
    refine tw_iconst C dX11_context_10 (v := (-1)) (by decide) ?_
    exact tw_ireturn C Q dX11_context_11 rfl rfl rfl (by rw [if_neg (by have := of_decide_eq_false cg; omega)]; exact ⟨rfl, rfl⟩)
theorem lnkT {u k : Nat} (hk : k < 8) : (u ^^^ 144115188075855872) / 2 ^ (56 - 8 * k) % 256 = if k = 0 then u / 2 ^ (56 - 8 * k) % 256 ^^^ 2 else u / 2 ^ (56 - 8 * k) % 256 := by
  have h0 : ∀ k, k < 8 → 144115188075855872 / 2 ^ (56 - 8 * k) % 256 = if k = 0 then 2 else 0 := by decide
  rw [Nat.xor_div_two_pow, show (256 : Nat) = 2 ^ 8 from rfl, Nat.xor_mod_two_pow, show (2 : Nat) ^ 8 = 256 from rfl, h0 k hk]
  split
  · rfl
  · rw [Nat.xor_zero]
theorem lnkF {u k : Nat} (hk : k < 8) : (1099478073344 ||| u % 65536) / 2 ^ (56 - 8 * k) % 256 = if k = 3 then 255 else if k = 4 then 254 else if k < 6 then 0 else u / 2 ^ (56 - 8 * k) % 256 := by
  have h := Nat.two_pow_add_eq_or_of_lt (i := 16) (b := u % 65536) (Nat.mod_lt _ (by decide)) 16776704
  have h2 : 1099478073344 ||| u % 65536 = 1099478073344 + u % 65536 := h.symm
  rw [h2]
  rcases (show k = 0 ∨ k = 1 ∨ k = 2 ∨ k = 3 ∨ k = 4 ∨ k = 5 ∨ k = 6 ∨ k = 7 by omega) with rfl | rfl | rfl | rfl | rfl | rfl | rfl | rfl <;> simp <;> omega
theorem lnkB {t : Bool} {u k : Nat} (hk : k < 8) : (if t then u ^^^ 144115188075855872 else 1099478073344 ||| u % 65536) / 2 ^ (56 - 8 * k) % 256 = if t = true then (if k = 0 then u / 2 ^ (56 - 8 * k) % 256 ^^^ 2 else u / 2 ^ (56 - 8 * k) % 256) else (if k = 3 then 255 else if k = 4 then 254 else if k < 6 then 0 else u / 2 ^ (56 - 8 * k) % 256) := by
  cases t
  · exact lnkF hk
  · exact lnkT hk
theorem mK_lnk {S : tw_S} {K : kN} {i v : Nat} {f : Nat → Int32} (h : mK S K) (hi : i < 2) (hv : v < 2 ^ 64) (h1 : ∀ k, k < 8 → f (8 * i + k) = nI (v / 2 ^ (56 - 8 * k) % 256)) (h2 : ∀ j, j < 8 * i ∨ 8 * i + 8 ≤ j → f j = tw_A S 117 j) : mK (tw_wA S 117 f) (kLnk K i v) := by
  refine ⟨h.1, h.2.1, fun j k hj hk => ?_, h.2.2.2.1, fun j => ?_⟩
  · show f (8 * j + k) = nI ((if j = i then v else kO K j) / 2 ^ (56 - 8 * k) % 256)
    by_cases hji : j = i
    · rw [if_pos hji, hji]; exact h1 k hk
    · rw [if_neg hji, h2 _ (by omega)]; exact h.2.2.1 j k hj hk
  · show (if j = i then v else kO K j) < 2 ^ 64
    split
    · exact hv
    · exact h.2.2.2.2 j
theorem c_X11_link {G : tw_G} (hM : tw_mG G) {S : tw_S} {K : kN} {tp ot : List Nat} {fr : List (List Nat)} {T : Nat → Int32} {hl : List mE} {ck wh dr la an : Nat} (hI : MI S K tp ot fr T hl ck wh dr la an) {i : Nat} (hi : i < 2 ^ 32) {t : Bool} {u : Nat} (hu : u < 2 ^ 64) : tw_M G yX11_link cX11_link 7 (some .int) 1 22 [.ref (tw_ad G 114), .int (nI i), .int (bI t), .long (lN u)] S ri_I (fun v S' => if i < 2 then v = 1 ∧ MI S' (kLnk K i (if t then u ^^^ 144115188075855872 else 1099478073344 ||| u % 65536)) tp ot fr T hl ck wh dr la an else v = -1 ∧ S = S') := by
  refine tw_M.of (L := [(0, .ref (tw_ad G 114)), (1, .int (nI i)), (2, .int (bI t)), (3, .long (lN u))]) (by decide) (Nat.le_of_ble_eq_true rfl) rfl (fun X C N Q => ?_)
  have C : tw_C G X cX11_link RX11 := C
  have loop : i < 2 → ∀ (d : Nat) (k : Nat) (f : Nat → Int32) (_ : k + d = 8) (hf1 : ∀ j, j < k → f (8 * i + j) = nI ((if t then u ^^^ 144115188075855872 else 1099478073344 ||| u % 65536) / 2 ^ (56 - 8 * j) % 256)) (hf2 : ∀ j, j < 8 * i ∨ 8 * i + 8 ≤ j → f j = tw_A S 117 j), TW G X (tw_wA S 117 f) [(5, .int (nI k)), (0, .ref (tw_ad G 114)), (1, .int (nI i)), (2, .int (bI t)), (3, .long (lN u))] 14 [] := by
    intro hle d
    induction d with
    | zero =>
      intro k f hk hf1 hf2
      refine tw_iload C dX11_link_14 0 rfl ?_
      refine tw_bipush C dX11_link_16 (v := nI 8) (by decide) ?_
      refine tn_icmp_ge C dX11_link_18 (tgt := 126) (by decide) (by omega) (by omega) (fun c1 => ?_) (fun c1 => ?_)
      · skip
        refine tw_iconst C dX11_link_126 (v := nI 1) (by decide) ?_
        exact tw_ireturn C Q dX11_link_127 rfl rfl rfl (by rw [if_pos hle]; exact ⟨rfl, mK_lnk hI.1 hle (lnk_lt hu) (fun k hk => hf1 k (by omega)) (fun j hj => hf2 j (by omega)), hI.2⟩)
      · exact absurd c1 (by omega)
    | succ d ih =>
      intro k f hk hf1 hf2
      refine tw_iload C dX11_link_14 0 rfl ?_
      refine tw_bipush C dX11_link_16 (v := nI 8) (by decide) ?_
      refine tn_icmp_ge C dX11_link_18 (tgt := 126) (by decide) (by omega) (by omega) (fun c1 => ?_) (fun c1 => ?_)
      · exact absurd c1 (by omega)
      refine tw_lload_n C dX11_link_21 4 rfl ?_
      refine tw_bipush C dX11_link_22 (v := nI 56) (by decide) ?_
      refine tw_bipush C dX11_link_24 (v := nI 8) (by decide) ?_
      refine tw_iload C dX11_link_26 0 rfl ?_
      refine tw_imul C dX11_link_28 (v := nI (8 * k)) (pk_mul _ _) ?_
      refine tw_isub C dX11_link_29 (v := nI (56 - (8 * k))) (pk_sub (by omega)) ?_
      refine tw_lshr C dX11_link_30 (v := lN u >>> ((nI (56 - 8 * k)).toInt64 &&& 63)) rfl ?_
      refine tw_ldc2 C dX11_link_31 wd_134 (w := lN 255) (by decide) ?_
      refine tw_land C dX11_link_34 (v := lN (u / 2 ^ (56 - 8 * k) % 256)) (lN_sar (by omega)) ?_
      refine tw_l2i C dX11_link_35 (v := nI (u / 2 ^ (56 - 8 * k) % 256)) (lN_i32 _) ?_
      refine tw_istore (L' := [(6, .int (nI (u / 2 ^ (56 - 8 * k) % 256))), (5, .int (nI k)), (0, .ref (tw_ad G 114)), (1, .int (nI i)), (2, .int (bI t)), (3, .long (lN u))]) C N dX11_link_36 (i := 6) (by decide) rfl ?_
      refine tw_iload_n C dX11_link_38 4 rfl ?_
      refine tb_if_eq C dX11_link_39 (tgt := 71) (by decide) (fun ct => ?_) (fun ct => ?_)
      · skip
        refine tw_aload_n C dX11_link_71 2 rfl ?_
        refine tw_getR (q := 117) (k := 2) C dX11_link_72 fc_X11 sh_114 (hM 114 (by decide) (by decide)) rfl (by decide) wd_113 ?_
        refine tw_bipush C dX11_link_75 (v := nI 8) (by decide) ?_
        refine tw_iload_n C dX11_link_77 3 rfl ?_
        refine tw_imul C dX11_link_78 (v := nI (8 * i)) (pk_mul _ _) ?_
        refine tw_iload C dX11_link_79 1 rfl ?_
        refine tw_iadd C dX11_link_81 (v := nI ((8 * i) + k)) (nI_add _ _) ?_
        refine tw_iload C dX11_link_82 1 rfl ?_
        refine tw_iconst C dX11_link_84 (v := nI 3) (by decide) ?_
        refine tn_icmp_ne C dX11_link_85 (tgt := 94) (by decide) (by omega) (by omega) (fun c2 => ?_) (fun c2 => ?_)
        · skip
          refine tw_iload C dX11_link_94 1 rfl ?_
          refine tw_iconst C dX11_link_96 (v := nI 4) (by decide) ?_
          refine tn_icmp_ne C dX11_link_97 (tgt := 106) (by decide) (by omega) (by omega) (fun c3 => ?_) (fun c3 => ?_)
          · skip
            refine tw_iload C dX11_link_106 1 rfl ?_
            refine tw_bipush C dX11_link_108 (v := nI 6) (by decide) ?_
            refine tn_icmp_ge C dX11_link_110 (tgt := 117) (by decide) (by omega) (by omega) (fun c4 => ?_) (fun c4 => ?_)
            · skip
              refine tw_iload C dX11_link_117 0 rfl ?_
              refine tw_iast C dX11_link_119 sn_117 sa_117 (hM 117 (by decide) (by decide)) (by omega) (by decide) ?_
              refine tw_iinc (k := 1) (v := nI (k + 1)) (L' := [(5, .int (nI (k + 1))), (6, .int (nI (u / 2 ^ (56 - 8 * k) % 256))), (0, .ref (tw_ad G 114)), (1, .int (nI i)), (2, .int (bI t)), (3, .long (lN u))]) C N dX11_link_120 rfl (tn_inc1 _) (by decide) rfl ?_
              refine tw_goto C dX11_link_123 (tgt := 14) (by decide) ?_
              rw [wA_uA]
              refine TW.c (L' := [(5, .int (nI (k + 1))), (0, .ref (tw_ad G 114)), (1, .int (nI i)), (2, .int (bI t)), (3, .long (lN u))]) (by simp) ?_
              exact ih (k + 1) _ (by omega) (fun j hj => by
                by_cases hx : j = k
                · rw [hx]; simp only [upd, if_true]; rw [lnkB (by omega), ct]; simp only [reduceIte, Bool.false_eq_true]; (repeat' split) <;> first | rfl | (exfalso; omega)
                · simp only [upd, show ¬ 8 * i + j = 8 * i + k by omega, if_false]; exact hf1 j (by omega)) (fun j hj => by simp only [upd, show ¬ j = 8 * i + k by omega, if_false]; exact hf2 j hj)
            · skip
              refine tw_iconst C dX11_link_113 (v := nI 0) (by decide) ?_
              refine tw_goto C dX11_link_114 (tgt := 119) (by decide) ?_
              refine tw_iast C dX11_link_119 sn_117 sa_117 (hM 117 (by decide) (by decide)) (by omega) (by decide) ?_
              refine tw_iinc (k := 1) (v := nI (k + 1)) (L' := [(5, .int (nI (k + 1))), (6, .int (nI (u / 2 ^ (56 - 8 * k) % 256))), (0, .ref (tw_ad G 114)), (1, .int (nI i)), (2, .int (bI t)), (3, .long (lN u))]) C N dX11_link_120 rfl (tn_inc1 _) (by decide) rfl ?_
              refine tw_goto C dX11_link_123 (tgt := 14) (by decide) ?_
              rw [wA_uA]
              refine TW.c (L' := [(5, .int (nI (k + 1))), (0, .ref (tw_ad G 114)), (1, .int (nI i)), (2, .int (bI t)), (3, .long (lN u))]) (by simp) ?_
              exact ih (k + 1) _ (by omega) (fun j hj => by
                by_cases hx : j = k
                · rw [hx]; simp only [upd, if_true]; rw [lnkB (by omega), ct]; simp only [reduceIte, Bool.false_eq_true]; (repeat' split) <;> first | rfl | (exfalso; omega)
                · simp only [upd, show ¬ 8 * i + j = 8 * i + k by omega, if_false]; exact hf1 j (by omega)) (fun j hj => by simp only [upd, show ¬ j = 8 * i + k by omega, if_false]; exact hf2 j hj)
          · skip
            refine tw_sipush C dX11_link_100 (v := nI 254) (by decide) ?_
            refine tw_goto C dX11_link_103 (tgt := 119) (by decide) ?_
            refine tw_iast C dX11_link_119 sn_117 sa_117 (hM 117 (by decide) (by decide)) (by omega) (by decide) ?_
            refine tw_iinc (k := 1) (v := nI (k + 1)) (L' := [(5, .int (nI (k + 1))), (6, .int (nI (u / 2 ^ (56 - 8 * k) % 256))), (0, .ref (tw_ad G 114)), (1, .int (nI i)), (2, .int (bI t)), (3, .long (lN u))]) C N dX11_link_120 rfl (tn_inc1 _) (by decide) rfl ?_
            refine tw_goto C dX11_link_123 (tgt := 14) (by decide) ?_
            rw [wA_uA]
            refine TW.c (L' := [(5, .int (nI (k + 1))), (0, .ref (tw_ad G 114)), (1, .int (nI i)), (2, .int (bI t)), (3, .long (lN u))]) (by simp) ?_
            exact ih (k + 1) _ (by omega) (fun j hj => by
              by_cases hx : j = k
              · rw [hx]; simp only [upd, if_true]; rw [lnkB (by omega), ct]; simp only [reduceIte, Bool.false_eq_true]; (repeat' split) <;> first | rfl | (exfalso; omega)
              · simp only [upd, show ¬ 8 * i + j = 8 * i + k by omega, if_false]; exact hf1 j (by omega)) (fun j hj => by simp only [upd, show ¬ j = 8 * i + k by omega, if_false]; exact hf2 j hj)
        · skip
          refine tw_sipush C dX11_link_88 (v := nI 255) (by decide) ?_
          refine tw_goto C dX11_link_91 (tgt := 119) (by decide) ?_
          refine tw_iast C dX11_link_119 sn_117 sa_117 (hM 117 (by decide) (by decide)) (by omega) (by decide) ?_
          refine tw_iinc (k := 1) (v := nI (k + 1)) (L' := [(5, .int (nI (k + 1))), (6, .int (nI (u / 2 ^ (56 - 8 * k) % 256))), (0, .ref (tw_ad G 114)), (1, .int (nI i)), (2, .int (bI t)), (3, .long (lN u))]) C N dX11_link_120 rfl (tn_inc1 _) (by decide) rfl ?_
          refine tw_goto C dX11_link_123 (tgt := 14) (by decide) ?_
          rw [wA_uA]
          refine TW.c (L' := [(5, .int (nI (k + 1))), (0, .ref (tw_ad G 114)), (1, .int (nI i)), (2, .int (bI t)), (3, .long (lN u))]) (by simp) ?_
          exact ih (k + 1) _ (by omega) (fun j hj => by
            by_cases hx : j = k
            · rw [hx]; simp only [upd, if_true]; rw [lnkB (by omega), ct]; simp only [reduceIte, Bool.false_eq_true]; (repeat' split) <;> first | rfl | (exfalso; omega)
            · simp only [upd, show ¬ 8 * i + j = 8 * i + k by omega, if_false]; exact hf1 j (by omega)) (fun j hj => by simp only [upd, show ¬ j = 8 * i + k by omega, if_false]; exact hf2 j hj)
      · skip
        refine tw_aload_n C dX11_link_42 2 rfl ?_
        refine tw_getR (q := 117) (k := 2) C dX11_link_43 fc_X11 sh_114 (hM 114 (by decide) (by decide)) rfl (by decide) wd_113 ?_
        refine tw_bipush C dX11_link_46 (v := nI 8) (by decide) ?_
        refine tw_iload_n C dX11_link_48 3 rfl ?_
        refine tw_imul C dX11_link_49 (v := nI (8 * i)) (pk_mul _ _) ?_
        refine tw_iload C dX11_link_50 1 rfl ?_
        refine tw_iadd C dX11_link_52 (v := nI ((8 * i) + k)) (nI_add _ _) ?_
        refine tw_iload C dX11_link_53 1 rfl ?_
        refine tn_if_ne C dX11_link_55 (tgt := 65) (by decide) (by omega) (fun c5 => ?_) (fun c5 => ?_)
        · skip
          refine tw_iload C dX11_link_65 0 rfl ?_
          refine tw_iast C dX11_link_67 sn_117 sa_117 (hM 117 (by decide) (by decide)) (by omega) (by decide) ?_
          refine tw_goto C dX11_link_68 (tgt := 120) (by decide) ?_
          refine tw_iinc (k := 1) (v := nI (k + 1)) (L' := [(5, .int (nI (k + 1))), (6, .int (nI (u / 2 ^ (56 - 8 * k) % 256))), (0, .ref (tw_ad G 114)), (1, .int (nI i)), (2, .int (bI t)), (3, .long (lN u))]) C N dX11_link_120 rfl (tn_inc1 _) (by decide) rfl ?_
          refine tw_goto C dX11_link_123 (tgt := 14) (by decide) ?_
          rw [wA_uA]
          refine TW.c (L' := [(5, .int (nI (k + 1))), (0, .ref (tw_ad G 114)), (1, .int (nI i)), (2, .int (bI t)), (3, .long (lN u))]) (by simp) ?_
          exact ih (k + 1) _ (by omega) (fun j hj => by
            by_cases hx : j = k
            · rw [hx]; simp only [upd, if_true]; rw [lnkB (by omega), ct]; simp only [reduceIte, Bool.false_eq_true]; (repeat' split) <;> first | rfl | (exfalso; omega)
            · simp only [upd, show ¬ 8 * i + j = 8 * i + k by omega, if_false]; exact hf1 j (by omega)) (fun j hj => by simp only [upd, show ¬ j = 8 * i + k by omega, if_false]; exact hf2 j hj)
        · skip
          refine tw_iload C dX11_link_58 0 rfl ?_
          refine tw_iconst C dX11_link_60 (v := nI 2) (by decide) ?_
          refine tw_ixor C dX11_link_61 (v := nI ((u / 2 ^ (56 - 8 * k) % 256) ^^^ 2)) (nI_xor _ _) ?_
          refine tw_goto C dX11_link_62 (tgt := 67) (by decide) ?_
          refine tw_iast C dX11_link_67 sn_117 sa_117 (hM 117 (by decide) (by decide)) (by omega) (by decide) ?_
          refine tw_goto C dX11_link_68 (tgt := 120) (by decide) ?_
          refine tw_iinc (k := 1) (v := nI (k + 1)) (L' := [(5, .int (nI (k + 1))), (6, .int (nI (u / 2 ^ (56 - 8 * k) % 256))), (0, .ref (tw_ad G 114)), (1, .int (nI i)), (2, .int (bI t)), (3, .long (lN u))]) C N dX11_link_120 rfl (tn_inc1 _) (by decide) rfl ?_
          refine tw_goto C dX11_link_123 (tgt := 14) (by decide) ?_
          rw [wA_uA]
          refine TW.c (L' := [(5, .int (nI (k + 1))), (0, .ref (tw_ad G 114)), (1, .int (nI i)), (2, .int (bI t)), (3, .long (lN u))]) (by simp) ?_
          exact ih (k + 1) _ (by omega) (fun j hj => by
            by_cases hx : j = k
            · rw [hx]; simp only [upd, if_true]; rw [lnkB (by omega), ct]; simp only [reduceIte, Bool.false_eq_true]; (repeat' split) <;> first | rfl | (exfalso; omega)
            · simp only [upd, show ¬ 8 * i + j = 8 * i + k by omega, if_false]; exact hf1 j (by omega)) (fun j hj => by simp only [upd, show ¬ j = 8 * i + k by omega, if_false]; exact hf2 j hj)
  refine tw_iload_n C dX11_link_0 1 rfl ?_
  refine tw_iconst C dX11_link_1 (v := nI 0) (by decide) ?_
  refine tw_iconst C dX11_link_2 (v := nI 1) (by decide) ?_
  refine tw_callS (As := [.int (nI i), .int (nI 0), .int (nI 1)]) (rest := []) C N (c_X11_in1 (S := S) (v := i) (lo := 0) (hi := 1) (by omega) (by omega) (by omega)) mm_X11_in wd_135 rfl (by decide) rfl (Nat.le_of_ble_eq_true rfl) dX11_link_3 ?_
  rintro _ _ ⟨rfl, rfl⟩
  show TW G X S [(0, .ref (tw_ad G 114)), (1, .int (nI i)), (2, .int (bI t)), (3, .long (lN u))] 6 [.int (bI (decide (0 ≤ i ∧ i ≤ 1)))]
  refine tb_if_ne C dX11_link_6 (tgt := 11) (by decide) (fun cg => ?_) (fun cg => ?_)
  · have hle : i < 2 := by have := of_decide_eq_true cg; omega
    refine tw_iconst C dX11_link_11 (v := nI 0) (by decide) ?_
    refine tw_istore (L' := [(5, .int (nI 0)), (0, .ref (tw_ad G 114)), (1, .int (nI i)), (2, .int (bI t)), (3, .long (lN u))]) C N dX11_link_12 (i := 5) (by decide) rfl ?_
    refine TW.sS (S' := tw_wA S 117 (tw_A S 117)) (wA_self _ 117).symm ?_
    refine TW.c (L' := [(5, .int (nI 0)), (0, .ref (tw_ad G 114)), (1, .int (nI i)), (2, .int (bI t)), (3, .long (lN u))]) (by simp) ?_
    exact loop hle 8 0 _ rfl (fun j hj => absurd hj (by omega)) (fun j hj => rfl)
  · skip
    refine tw_iconst C dX11_link_9 (v := (-1)) (by decide) ?_
    exact tw_ireturn C Q dX11_link_10 rfl rfl rfl (by rw [if_neg (by have := of_decide_eq_false cg; omega)]; exact ⟨rfl, rfl⟩)
