theorem or4 {a x : Nat} (h : x < 4) : a * 4 ||| x = a * 4 + x := by
  have := Nat.two_pow_add_eq_or_of_lt (i := 2) (b := x) h a
  simp only [Nat.reducePow] at this
  rw [Nat.mul_comm a 4, this]
theorem and48 : ∀ x, x < 256 → (x &&& 48 = 0 ↔ x / 16 % 4 = 0) ∧ x &&& 48 < 256 := by decide +kernel
theorem uFt_t1 {K : kN} {bs : List Nat} {s : Nat} (h : u2 K bs s) (h2 : bs.length < uA2 (bs.getD s 0) (bs.getD (s + 1) 0) s) : uFt K bs s = (1, bs.length) := by
  rw [uFt_r2 h]; simp only; rw [if_pos h2]
theorem uFt_t2 {K : kN} {bs : List Nat} {s : Nat} (h : u2 K bs s) (h2 : uA2 (bs.getD s 0) (bs.getD (s + 1) 0) s ≤ bs.length) (h3 : uWr bs (uTF (bs.getD s 0)) (uA1 (bs.getD (s + 1) 0) s) ≠ 0) : uFt K bs s = (5, uA1 (bs.getD (s + 1) 0) s) := by
  rw [uFt_r2 h]; simp only; rw [if_neg (by omega), if_pos h3]
theorem c_X9_readsTraffic {G : tw_G} (hG : tw_cG G) {B : tw_S} {F : Nat → Int32} {pk : List Nat} {q : Nat} (hq : tw_isRow q = true) (hq10 : q ≠ 10) {bs : List Nat} (hbs : tw_R B q = bs) (hby : ∀ x ∈ bs, x < 256) (hlen : bs.length ≤ 640) {K : kN} {s : Nat} {x7 x8 : Int32} (hs : s < 2 ^ 20) (h2 : u2 K bs s) (hF : UK F (uA1 (bs.getD (s + 1) 0) s) 0 0 (nI (bs.getD s 0)) (nI (bs.getD (s + 1) 0)) x7 x8) : tw_M G yX9_readsTraffic cX9_readsTraffic 9 (some .boolean) 2 47 [.ref (tw_ad G 9), .ref (tw_ad G q)] (UF B F pk) ri_I (fun v S' => (u3 K bs s ∧ v = bI true ∧ uGo B S' (uA2 (bs.getD s 0) (bs.getD (s + 1) 0) s) (nI (bs.getD s 0)) (nI (bs.getD (s + 1) 0)) x7 x8 (setN pk 0 (be (ff (uT bs (uTF (bs.getD s 0)) (uA1 (bs.getD (s + 1) 0) s)) (uL bs (uTF (bs.getD s 0)) (uA1 (bs.getD (s + 1) 0) s))) 4))) ∨ (v = bI false ∧ uFail B S' (uFt K bs s))) := by
  refine tw_M.of (L := [(0, .ref (tw_ad G 9)), (1, .ref (tw_ad G q))]) (by decide) (Nat.le_of_ble_eq_true rfl) rfl (fun X C N Q => ?_)
  have C : tw_C G X cX9_readsTraffic RX9 := C
  have h1 := h2.1
  have hle := h2.2.1
  have hsl := h1.1
  have hb0 := getD_in hby s
  have hb1 := getD_in hby (s + 1)
  have hba := getD_in hby (uA1 (bs.getD (s + 1) 0) s)
  have hn0 := nb_lt hby (uA1 (bs.getD (s + 1) 0) s + 1) 3
  have hn1 := nb_lt hby (uA1 (bs.getD (s + 1) 0) s) 3
  simp only [Nat.reducePow] at hn0 hn1
  have htf : uTF (bs.getD s 0) < 4 := Nat.mod_lt _ (by decide)
  have ha1 : s + 2 ≤ uA1 (bs.getD (s + 1) 0) s ∧ uA1 (bs.getD (s + 1) 0) s ≤ s + 3 := by unfold uA1; split <;> omega
  have h48 := and48 _ hba
  refine tw_aload_n C dX9_readsTraffic_0 0 rfl ?_
  refine tw_callV (As := []) (rest := []) C N (c_X9_traffic hG (B := B) (F := F) (pk := pk) (b0 := (bs.getD s 0)) hF.2.2.2.1 (by assumption)) mm_X9_traffic wd_409 rfl (hG 9 (by decide)) sh_9 rfl (by decide) rfl (Nat.le_of_ble_eq_true rfl) dX9_readsTraffic_1 ?_
  rintro _ _ ⟨rfl, rfl⟩
  show TW G X (UF B F pk) [(0, .ref (tw_ad G 9)), (1, .ref (tw_ad G q))] 4 [.int (nI (uTF ((bs.getD s 0))))]
  rcases (show uTF (bs.getD s 0) = 0 ∨ uTF (bs.getD s 0) = 1 ∨ uTF (bs.getD s 0) = 2 ∨ uTF (bs.getD s 0) = 3 by omega) with qz | qz | qz | qz
  · have h2t : tfN (uTF (bs.getD s 0)) = 4 := by rw [qz]; rfl
    refine tw_istore_n (L' := [(2, .int (nI (uTF ((bs.getD s 0))))), (0, .ref (tw_ad G 9)), (1, .ref (tw_ad G q))]) C N dX9_readsTraffic_4 rfl (by decide) rfl ?_
    refine tw_iload_n C dX9_readsTraffic_5 0 rfl ?_
    refine tn_if_ne C dX9_readsTraffic_6 (tgt := 13) (by decide) (by omega) (fun cz => ?_) (fun cz => ?_)
    · exact absurd qz (by omega)
    refine tw_iconst C dX9_readsTraffic_9 (v := nI 4) (by decide) ?_
    refine tw_goto C dX9_readsTraffic_10 (tgt := 32) (by decide) ?_
    refine tw_istore_n (L' := [(3, .int (nI 4)), (2, .int (nI (uTF ((bs.getD s 0))))), (0, .ref (tw_ad G 9)), (1, .ref (tw_ad G q))]) C N dX9_readsTraffic_32 rfl (by decide) rfl ?_
    refine tw_aload_n C dX9_readsTraffic_33 2 rfl ?_
    refine tw_aload_n C dX9_readsTraffic_34 3 rfl ?_
    refine tw_iload_n C dX9_readsTraffic_35 0 rfl ?_
    refine tw_callV (As := [.ref (tw_ad G q), .int (nI 4)]) (rest := []) C N (c_X9_has hG (B := B) (F := F) (pk := pk) hq hq10 hbs hby hlen (a := uA1 (bs.getD (s + 1) 0) s) (m := 4) hF.1 (by omega) (by omega)) mm_X9_has wd_376 rfl (hG 9 (by decide)) sh_9 rfl (by decide) rfl (Nat.le_of_ble_eq_true rfl) dX9_readsTraffic_36 ?_
    rintro _ _ (⟨hh2, rfl, rfl⟩ | ⟨hh2, rfl, rfl⟩)
    · show TW G X (UF B F pk) [(3, .int (nI 4)), (2, .int (nI (uTF ((bs.getD s 0))))), (0, .ref (tw_ad G 9)), (1, .ref (tw_ad G q))] 39 [.int (bI true)]
      refine tb_if_ne C dX9_readsTraffic_39 (tgt := 44) (by decide) (fun c4 => ?_) (fun c4 => ?_)
      · skip
        refine tw_iload_n C dX9_readsTraffic_44 0 rfl ?_
        refine tn_if_ne C dX9_readsTraffic_45 (tgt := 52) (by decide) (by omega) (fun c5 => ?_) (fun c5 => ?_)
        · skip
          refine tw_aload_n C dX9_readsTraffic_52 3 rfl ?_
          refine tw_aload_n C dX9_readsTraffic_53 2 rfl ?_
          refine tw_getI (v := nI (uA1 (bs.getD (s + 1) 0) s)) (k := 2) C dX9_readsTraffic_54 fc_X9 sh_9 (hG 9 (by decide)) rfl (by decide) wd_360 hF.1 ?_
          refine tw_callV (As := [.int (nI (uA1 (bs.getD (s + 1) 0) s))]) (rest := []) C N (e_X7_at hG (S := UF B F pk) hq (xs := bs) (UF_R hq10 hbs) (i := uA1 (bs.getD (s + 1) 0) s) (by omega)) mm_X7_at wd_385 rfl (hG _ (tw_row_lt hq).2) (tw_row_sh hq) rfl (by decide) rfl (Nat.le_of_ble_eq_true rfl) dX9_readsTraffic_57 ?_
          rintro _ _ ⟨rfl, rfl⟩
          show TW G X (UF B F pk) [(3, .int (nI 4)), (2, .int (nI (uTF ((bs.getD s 0))))), (0, .ref (tw_ad G 9)), (1, .ref (tw_ad G q))] 60 [.int (nI (bs.getD (uA1 (bs.getD (s + 1) 0) s) 0))]
          refine tw_istore (L' := [(4, .int (nI (bs.getD (uA1 (bs.getD (s + 1) 0) s) 0))), (3, .int (nI 4)), (2, .int (nI (uTF ((bs.getD s 0))))), (0, .ref (tw_ad G 9)), (1, .ref (tw_ad G q))]) C N dX9_readsTraffic_60 (i := 4) (by decide) rfl ?_
          refine tw_lconst C dX9_readsTraffic_62 (v := lN 0) rfl ?_
          refine tw_lstore (L' := [(5, .long (lN 0)), (4, .int (nI (bs.getD (uA1 (bs.getD (s + 1) 0) s) 0))), (3, .int (nI 4)), (2, .int (nI (uTF ((bs.getD s 0))))), (0, .ref (tw_ad G 9)), (1, .ref (tw_ad G q))]) C N dX9_readsTraffic_63 (i := 5) (by decide) rfl ?_
          refine tw_iconst C dX9_readsTraffic_65 (v := nI 0) (by decide) ?_
          refine tw_istore (L' := [(7, .int (nI 0)), (5, .long (lN 0)), (4, .int (nI (bs.getD (uA1 (bs.getD (s + 1) 0) s) 0))), (3, .int (nI 4)), (2, .int (nI (uTF ((bs.getD s 0))))), (0, .ref (tw_ad G 9)), (1, .ref (tw_ad G q))]) C N dX9_readsTraffic_66 (i := 7) (by decide) rfl ?_
          refine tw_iload_n C dX9_readsTraffic_68 4 rfl ?_
          refine tn_if_ne C dX9_readsTraffic_69 (tgt := 96) (by decide) (by omega) (fun cz => ?_) (fun cz => ?_)
          · exact absurd qz (by omega)
          refine tw_aload_n C dX9_readsTraffic_72 6 rfl ?_
          refine tw_aload_n C dX9_readsTraffic_73 5 rfl ?_
          refine tw_getI (v := nI (uA1 (bs.getD (s + 1) 0) s)) (k := 2) C dX9_readsTraffic_74 fc_X9 sh_9 (hG 9 (by decide)) rfl (by decide) wd_360 hF.1 ?_
          refine tw_iconst C dX9_readsTraffic_77 (v := nI 1) (by decide) ?_
          refine tw_iadd C dX9_readsTraffic_78 (v := nI ((uA1 (bs.getD (s + 1) 0) s) + 1)) (nI_add _ _) ?_
          refine tw_iconst C dX9_readsTraffic_79 (v := nI 3) (by decide) ?_
          refine tw_callV (As := [.int (nI ((uA1 (bs.getD (s + 1) 0) s) + 1)), .int (nI 3)]) (rest := []) C N (e_X7_number hG (S := UF B F pk) hq (xs := bs) (UF_R hq10 hbs) (f := (uA1 (bs.getD (s + 1) 0) s) + 1) (i := 3) (by omega) (by omega)) mm_X7_number wd_413 rfl (hG _ (tw_row_lt hq).2) (tw_row_sh hq) rfl (by decide) rfl (Nat.le_of_ble_eq_true rfl) dX9_readsTraffic_80 ?_
          rintro _ _ ⟨rfl, rfl⟩
          show TW G X (UF B F pk) [(7, .int (nI 0)), (5, .long (lN 0)), (4, .int (nI (bs.getD (uA1 (bs.getD (s + 1) 0) s) 0))), (3, .int (nI 4)), (2, .int (nI (uTF ((bs.getD s 0))))), (0, .ref (tw_ad G 9)), (1, .ref (tw_ad G q))] 83 [.long (lN (nb bs ((uA1 (bs.getD (s + 1) 0) s) + 1) 3))]
          refine tw_lstore (L' := [(5, .long (lN (nb bs ((uA1 (bs.getD (s + 1) 0) s) + 1) 3))), (7, .int (nI 0)), (4, .int (nI (bs.getD (uA1 (bs.getD (s + 1) 0) s) 0))), (3, .int (nI 4)), (2, .int (nI (uTF ((bs.getD s 0))))), (0, .ref (tw_ad G 9)), (1, .ref (tw_ad G q))]) C N dX9_readsTraffic_83 (i := 5) (by decide) rfl ?_
          refine tw_lload C dX9_readsTraffic_85 0 rfl ?_
          refine tw_bipush C dX9_readsTraffic_87 (v := nI 20) (by decide) ?_
          refine tw_lushr C dX9_readsTraffic_89 (v := lN ((nb bs ((uA1 (bs.getD (s + 1) 0) s) + 1) 3) / 1048576)) (lN_ushr (by omega) 20 (by decide)) ?_
          refine tw_l2i C dX9_readsTraffic_90 (v := nI ((nb bs ((uA1 (bs.getD (s + 1) 0) s) + 1) 3) / 1048576)) (lN_i32 _) ?_
          refine tw_istore (L' := [(7, .int (nI ((nb bs ((uA1 (bs.getD (s + 1) 0) s) + 1) 3) / 1048576))), (5, .long (lN (nb bs ((uA1 (bs.getD (s + 1) 0) s) + 1) 3))), (4, .int (nI (bs.getD (uA1 (bs.getD (s + 1) 0) s) 0))), (3, .int (nI 4)), (2, .int (nI (uTF ((bs.getD s 0))))), (0, .ref (tw_ad G 9)), (1, .ref (tw_ad G q))]) C N dX9_readsTraffic_91 (i := 7) (by decide) rfl ?_
          refine tw_goto C dX9_readsTraffic_93 (tgt := 123) (by decide) ?_
          refine tw_iload C dX9_readsTraffic_123 0 rfl ?_
          refine tn_if_eq C dX9_readsTraffic_125 (tgt := 138) (by decide) (by omega) (fun cw => ?_) (fun cw => ?_)
          · skip
            refine tw_iload_n C dX9_readsTraffic_138 4 rfl ?_
            refine tw_iconst C dX9_readsTraffic_139 (v := nI 1) (by decide) ?_
            refine tn_icmp_ne C dX9_readsTraffic_140 (tgt := 147) (by decide) (by omega) (by omega) (fun cz => ?_) (fun cz => ?_)
            · skip
              refine tw_iload C dX9_readsTraffic_147 2 rfl ?_
              refine tw_bipush C dX9_readsTraffic_149 (v := nI 63) (by decide) ?_
              refine tw_iand C dX9_readsTraffic_151 (v := nI ((bs.getD (uA1 (bs.getD (s + 1) 0) s) 0) % 64)) (nI_andm 6 (by decide)) ?_
              refine tw_istore (L' := [(8, .int (nI ((bs.getD (uA1 (bs.getD (s + 1) 0) s) 0) % 64))), (7, .int (nI ((nb bs ((uA1 (bs.getD (s + 1) 0) s) + 1) 3) / 1048576))), (5, .long (lN (nb bs ((uA1 (bs.getD (s + 1) 0) s) + 1) 3))), (4, .int (nI (bs.getD (uA1 (bs.getD (s + 1) 0) s) 0))), (3, .int (nI 4)), (2, .int (nI (uTF ((bs.getD s 0))))), (0, .ref (tw_ad G 9)), (1, .ref (tw_ad G q))]) C N dX9_readsTraffic_152 (i := 8) (by decide) rfl ?_
              refine tw_aload_n C dX9_readsTraffic_154 6 rfl ?_
              refine tw_getR (q := 10) (k := 1) C dX9_readsTraffic_155 fc_X9 sh_9 (hG 9 (by decide)) rfl (by decide) wd_64 ?_
              refine tw_iconst C dX9_readsTraffic_158 (v := nI 0) (by decide) ?_
              refine tw_iload C dX9_readsTraffic_159 0 rfl ?_
              refine tw_iconst C dX9_readsTraffic_161 (v := nI 2) (by decide) ?_
              refine tw_ishl C dX9_readsTraffic_162 (v := nI (((bs.getD (uA1 (bs.getD (s + 1) 0) s) 0) % 64) * 4)) (nI_shl _ 2 (by decide)) ?_
              refine tw_iload C dX9_readsTraffic_163 3 rfl ?_
              refine tw_bipush C dX9_readsTraffic_165 (v := nI 6) (by decide) ?_
              refine tw_ishr C dX9_readsTraffic_167 (v := nI ((bs.getD (uA1 (bs.getD (s + 1) 0) s) 0) / 64)) (nI_shr (by omega) 6 (by decide)) ?_
              refine tw_ior C dX9_readsTraffic_168 (v := nI ((((bs.getD (uA1 (bs.getD (s + 1) 0) s) 0) % 64) * 4) + ((bs.getD (uA1 (bs.getD (s + 1) 0) s) 0) / 64))) (by rw [nI_or, or4 (by omega)]) ?_
              refine tw_lload C dX9_readsTraffic_169 2 rfl ?_
              refine tw_l2i C dX9_readsTraffic_171 (v := nI (nb bs ((uA1 (bs.getD (s + 1) 0) s) + 1) 3)) (lN_i32 _) ?_
              refine tw_callS (As := [.int (nI ((((bs.getD (uA1 (bs.getD (s + 1) 0) s) 0) % 64) * 4) + ((bs.getD (uA1 (bs.getD (s + 1) 0) s) 0) / 64))), .int (nI (nb bs ((uA1 (bs.getD (s + 1) 0) s) + 1) 3))]) (rest := [.int (nI 0), .ref (tw_ad G 10)]) C N (c_X5_firstFour hG (S := UF B F pk) (t := (((bs.getD (uA1 (bs.getD (s + 1) 0) s) 0) % 64) * 4) + ((bs.getD (uA1 (bs.getD (s + 1) 0) s) 0) / 64)) (l := nb bs ((uA1 (bs.getD (s + 1) 0) s) + 1) 3) (by omega) (by omega)) mm_X5_firstFour wd_414 rfl (by decide) rfl (Nat.le_of_ble_eq_true rfl) dX9_readsTraffic_172 ?_
              rintro _ _ ⟨rfl, rfl⟩
              show TW G X (UF B F pk) [(8, .int (nI ((bs.getD (uA1 (bs.getD (s + 1) 0) s) 0) % 64))), (7, .int (nI ((nb bs ((uA1 (bs.getD (s + 1) 0) s) + 1) 3) / 1048576))), (5, .long (lN (nb bs ((uA1 (bs.getD (s + 1) 0) s) + 1) 3))), (4, .int (nI (bs.getD (uA1 (bs.getD (s + 1) 0) s) 0))), (3, .int (nI 4)), (2, .int (nI (uTF ((bs.getD s 0))))), (0, .ref (tw_ad G 9)), (1, .ref (tw_ad G q))] 175 [.long (lN (ff ((((bs.getD (uA1 (bs.getD (s + 1) 0) s) 0) % 64) * 4) + ((bs.getD (uA1 (bs.getD (s + 1) 0) s) 0) / 64)) (nb bs ((uA1 (bs.getD (s + 1) 0) s) + 1) 3))), .int (nI 0), .ref (tw_ad G 10)]
              refine tw_iconst C dX9_readsTraffic_175 (v := nI 4) (by decide) ?_
              refine tw_callV (As := [.int (nI 0), .long (lN (ff ((((bs.getD (uA1 (bs.getD (s + 1) 0) s) 0) % 64) * 4) + ((bs.getD (uA1 (bs.getD (s + 1) 0) s) 0) / 64)) (nb bs ((uA1 (bs.getD (s + 1) 0) s) + 1) 3))), .int (nI 4)]) (rest := []) C N (e_X7_setNumber hG (S := UF B F pk) tw_row10 (xs := pk) rfl (f := 0) (v := ff ((((bs.getD (uA1 (bs.getD (s + 1) 0) s) 0) % 64) * 4) + ((bs.getD (uA1 (bs.getD (s + 1) 0) s) 0) / 64)) (nb bs ((uA1 (bs.getD (s + 1) 0) s) + 1) 3)) (i := 4) (by omega) (by unfold ff; omega) (by omega)) mm_X7_setNumber wd_415 rfl (hG 10 (by decide)) sh_10 rfl (by decide) rfl (Nat.le_of_ble_eq_true rfl) dX9_readsTraffic_176 ?_
              rintro _ _ rfl
              show TW G X (tw_uR (UF B F pk) 10 (setN pk 0 (be (ff ((((bs.getD (uA1 (bs.getD (s + 1) 0) s) 0) % 64) * 4) + ((bs.getD (uA1 (bs.getD (s + 1) 0) s) 0) / 64)) (nb bs ((uA1 (bs.getD (s + 1) 0) s) + 1) 3)) 4))) [(8, .int (nI ((bs.getD (uA1 (bs.getD (s + 1) 0) s) 0) % 64))), (7, .int (nI ((nb bs ((uA1 (bs.getD (s + 1) 0) s) + 1) 3) / 1048576))), (5, .long (lN (nb bs ((uA1 (bs.getD (s + 1) 0) s) + 1) 3))), (4, .int (nI (bs.getD (uA1 (bs.getD (s + 1) 0) s) 0))), (3, .int (nI 4)), (2, .int (nI (uTF ((bs.getD s 0))))), (0, .ref (tw_ad G 9)), (1, .ref (tw_ad G q))] 179 []
              refine TW.sS (S' := UF B F (setN pk 0 (be (ff ((((bs.getD (uA1 (bs.getD (s + 1) 0) s) 0) % 64) * 4) + ((bs.getD (uA1 (bs.getD (s + 1) 0) s) 0) / 64)) (nb bs ((uA1 (bs.getD (s + 1) 0) s) + 1) 3)) 4))) (UF_uR _ _ _ _) ?_
              refine tw_aload_n C dX9_readsTraffic_179 6 rfl ?_
              refine tw_dup C dX9_readsTraffic_180 rfl ?_
              refine tw_getI (v := nI (uA1 (bs.getD (s + 1) 0) s)) (k := 2) C dX9_readsTraffic_181 fc_X9 sh_9 (hG 9 (by decide)) rfl (by decide) wd_360 hF.1 ?_
              refine tw_iload_n C dX9_readsTraffic_184 4 rfl ?_
              refine tw_iadd C dX9_readsTraffic_185 (v := nI ((uA1 (bs.getD (s + 1) 0) s) + 4)) (nI_add _ _) ?_
              refine tw_putI (k := 2) C dX9_readsTraffic_186 fc_X9 sh_9 (hG 9 (by decide)) rfl (by decide) rfl wd_360 rfl rfl ?_
              refine TW.sS (S' := UF B (upd F 2 (nI ((uA1 (bs.getD (s + 1) 0) s) + 4))) (setN pk 0 (be (ff ((((bs.getD (uA1 (bs.getD (s + 1) 0) s) 0) % 64) * 4) + ((bs.getD (uA1 (bs.getD (s + 1) 0) s) 0) / 64)) (nb bs ((uA1 (bs.getD (s + 1) 0) s) + 1) 3)) 4))) (UF_uI _ _ _ _ _) ?_
              refine tw_iconst C dX9_readsTraffic_189 (v := nI 1) (by decide) ?_
              exact tw_ireturn C Q dX9_readsTraffic_190 rfl rfl rfl (Or.inl ⟨⟨h2, by unfold uA2; omega, by simp only [uWr, qz]; simp only [Nat.reduceEqDiff, if_true, if_false]; try omega⟩, rfl, upd F 2 (nI ((uA1 (bs.getD (s + 1) 0) s) + 4)), by simp only [uT, uL, uFb, qz, Nat.reduceEqDiff, if_true, if_false, Nat.zero_mul, Nat.zero_add, Nat.zero_div, Nat.zero_mod]; try rfl, by unfold uA2; rw [h2t]; rfl, hF.2.1, hF.2.2.1, hF.2.2.2.1, hF.2.2.2.2.1, hF.2.2.2.2.2.1, hF.2.2.2.2.2.2⟩)
            · exact absurd qz (by omega)
          · skip
            refine tw_aload_n C dX9_readsTraffic_128 5 rfl ?_
            refine tw_iconst C dX9_readsTraffic_129 (v := nI 5) (by decide) ?_
            refine tw_aload_n C dX9_readsTraffic_130 5 rfl ?_
            refine tw_getI (v := nI (uA1 (bs.getD (s + 1) 0) s)) (k := 2) C dX9_readsTraffic_131 fc_X9 sh_9 (hG 9 (by decide)) rfl (by decide) wd_360 hF.1 ?_
            refine tw_callV (As := [.int (nI 5), .int (nI (uA1 (bs.getD (s + 1) 0) s))]) (rest := []) C N (c_X9_fails hG (B := B) (F := F) (pk := pk) (f := 5) (p := uA1 (bs.getD (s + 1) 0) s)) mm_X9_fails wd_381 rfl (hG 9 (by decide)) sh_9 rfl (by decide) rfl (Nat.le_of_ble_eq_true rfl) dX9_readsTraffic_134 ?_
            rintro _ _ ⟨rfl, rfl⟩
            show TW G X (UF B (upd (upd F 3 (nI 5)) 4 (nI (uA1 (bs.getD (s + 1) 0) s))) pk) [(7, .int (nI ((nb bs ((uA1 (bs.getD (s + 1) 0) s) + 1) 3) / 1048576))), (5, .long (lN (nb bs ((uA1 (bs.getD (s + 1) 0) s) + 1) 3))), (4, .int (nI (bs.getD (uA1 (bs.getD (s + 1) 0) s) 0))), (3, .int (nI 4)), (2, .int (nI (uTF ((bs.getD s 0))))), (0, .ref (tw_ad G 9)), (1, .ref (tw_ad G q))] 137 [.int (bI false)]
            exact tw_ireturn C Q dX9_readsTraffic_137 rfl (bI_nar _) rfl (Or.inr ⟨rfl, uFail_of (uFt_t2 h2 (by unfold uA2; omega) (by simp only [uWr, qz]; simp only [Nat.reduceEqDiff, if_true, if_false]; omega)) (by decide) rfl rfl rfl⟩)
        · exact absurd c5 (by decide)
      · exact absurd c4 (by decide)
    · show TW G X (UF B (upd (upd F 3 (nI 1)) 4 (nI bs.length)) pk) [(3, .int (nI 4)), (2, .int (nI (uTF ((bs.getD s 0))))), (0, .ref (tw_ad G 9)), (1, .ref (tw_ad G q))] 39 [.int (bI false)]
      refine tb_if_ne C dX9_readsTraffic_39 (tgt := 44) (by decide) (fun c11 => ?_) (fun c11 => ?_)
      · exact absurd c11 (by decide)
      refine tw_iconst C dX9_readsTraffic_42 (v := nI 0) (by decide) ?_
      exact tw_ireturn C Q dX9_readsTraffic_43 rfl rfl rfl (Or.inr ⟨rfl, uFail_of (uFt_t1 h2 (by unfold uA2; omega)) (by decide) rfl rfl rfl⟩)
  · have h2t : tfN (uTF (bs.getD s 0)) = 3 := by rw [qz]; rfl
    refine tw_istore_n (L' := [(2, .int (nI (uTF ((bs.getD s 0))))), (0, .ref (tw_ad G 9)), (1, .ref (tw_ad G q))]) C N dX9_readsTraffic_4 rfl (by decide) rfl ?_
    refine tw_iload_n C dX9_readsTraffic_5 0 rfl ?_
    refine tn_if_ne C dX9_readsTraffic_6 (tgt := 13) (by decide) (by omega) (fun cz => ?_) (fun cz => ?_)
    · skip
      refine tw_iload_n C dX9_readsTraffic_13 0 rfl ?_
      refine tw_iconst C dX9_readsTraffic_14 (v := nI 1) (by decide) ?_
      refine tn_icmp_ne C dX9_readsTraffic_15 (tgt := 22) (by decide) (by omega) (by omega) (fun cz => ?_) (fun cz => ?_)
      · exact absurd qz (by omega)
      refine tw_iconst C dX9_readsTraffic_18 (v := nI 3) (by decide) ?_
      refine tw_goto C dX9_readsTraffic_19 (tgt := 32) (by decide) ?_
      refine tw_istore_n (L' := [(3, .int (nI 3)), (2, .int (nI (uTF ((bs.getD s 0))))), (0, .ref (tw_ad G 9)), (1, .ref (tw_ad G q))]) C N dX9_readsTraffic_32 rfl (by decide) rfl ?_
      refine tw_aload_n C dX9_readsTraffic_33 2 rfl ?_
      refine tw_aload_n C dX9_readsTraffic_34 3 rfl ?_
      refine tw_iload_n C dX9_readsTraffic_35 0 rfl ?_
      refine tw_callV (As := [.ref (tw_ad G q), .int (nI 3)]) (rest := []) C N (c_X9_has hG (B := B) (F := F) (pk := pk) hq hq10 hbs hby hlen (a := uA1 (bs.getD (s + 1) 0) s) (m := 3) hF.1 (by omega) (by omega)) mm_X9_has wd_376 rfl (hG 9 (by decide)) sh_9 rfl (by decide) rfl (Nat.le_of_ble_eq_true rfl) dX9_readsTraffic_36 ?_
      rintro _ _ (⟨hh12, rfl, rfl⟩ | ⟨hh12, rfl, rfl⟩)
      · show TW G X (UF B F pk) [(3, .int (nI 3)), (2, .int (nI (uTF ((bs.getD s 0))))), (0, .ref (tw_ad G 9)), (1, .ref (tw_ad G q))] 39 [.int (bI true)]
        refine tb_if_ne C dX9_readsTraffic_39 (tgt := 44) (by decide) (fun c14 => ?_) (fun c14 => ?_)
        · skip
          refine tw_iload_n C dX9_readsTraffic_44 0 rfl ?_
          refine tn_if_ne C dX9_readsTraffic_45 (tgt := 52) (by decide) (by omega) (fun c15 => ?_) (fun c15 => ?_)
          · skip
            refine tw_aload_n C dX9_readsTraffic_52 3 rfl ?_
            refine tw_aload_n C dX9_readsTraffic_53 2 rfl ?_
            refine tw_getI (v := nI (uA1 (bs.getD (s + 1) 0) s)) (k := 2) C dX9_readsTraffic_54 fc_X9 sh_9 (hG 9 (by decide)) rfl (by decide) wd_360 hF.1 ?_
            refine tw_callV (As := [.int (nI (uA1 (bs.getD (s + 1) 0) s))]) (rest := []) C N (e_X7_at hG (S := UF B F pk) hq (xs := bs) (UF_R hq10 hbs) (i := uA1 (bs.getD (s + 1) 0) s) (by omega)) mm_X7_at wd_385 rfl (hG _ (tw_row_lt hq).2) (tw_row_sh hq) rfl (by decide) rfl (Nat.le_of_ble_eq_true rfl) dX9_readsTraffic_57 ?_
            rintro _ _ ⟨rfl, rfl⟩
            show TW G X (UF B F pk) [(3, .int (nI 3)), (2, .int (nI (uTF ((bs.getD s 0))))), (0, .ref (tw_ad G 9)), (1, .ref (tw_ad G q))] 60 [.int (nI (bs.getD (uA1 (bs.getD (s + 1) 0) s) 0))]
            refine tw_istore (L' := [(4, .int (nI (bs.getD (uA1 (bs.getD (s + 1) 0) s) 0))), (3, .int (nI 3)), (2, .int (nI (uTF ((bs.getD s 0))))), (0, .ref (tw_ad G 9)), (1, .ref (tw_ad G q))]) C N dX9_readsTraffic_60 (i := 4) (by decide) rfl ?_
            refine tw_lconst C dX9_readsTraffic_62 (v := lN 0) rfl ?_
            refine tw_lstore (L' := [(5, .long (lN 0)), (4, .int (nI (bs.getD (uA1 (bs.getD (s + 1) 0) s) 0))), (3, .int (nI 3)), (2, .int (nI (uTF ((bs.getD s 0))))), (0, .ref (tw_ad G 9)), (1, .ref (tw_ad G q))]) C N dX9_readsTraffic_63 (i := 5) (by decide) rfl ?_
            refine tw_iconst C dX9_readsTraffic_65 (v := nI 0) (by decide) ?_
            refine tw_istore (L' := [(7, .int (nI 0)), (5, .long (lN 0)), (4, .int (nI (bs.getD (uA1 (bs.getD (s + 1) 0) s) 0))), (3, .int (nI 3)), (2, .int (nI (uTF ((bs.getD s 0))))), (0, .ref (tw_ad G 9)), (1, .ref (tw_ad G q))]) C N dX9_readsTraffic_66 (i := 7) (by decide) rfl ?_
            refine tw_iload_n C dX9_readsTraffic_68 4 rfl ?_
            refine tn_if_ne C dX9_readsTraffic_69 (tgt := 96) (by decide) (by omega) (fun cz => ?_) (fun cz => ?_)
            · skip
              refine tw_iload_n C dX9_readsTraffic_96 4 rfl ?_
              refine tw_iconst C dX9_readsTraffic_97 (v := nI 1) (by decide) ?_
              refine tn_icmp_ne C dX9_readsTraffic_98 (tgt := 123) (by decide) (by omega) (by omega) (fun cz => ?_) (fun cz => ?_)
              · exact absurd qz (by omega)
              refine tw_aload_n C dX9_readsTraffic_101 6 rfl ?_
              refine tw_aload_n C dX9_readsTraffic_102 5 rfl ?_
              refine tw_getI (v := nI (uA1 (bs.getD (s + 1) 0) s)) (k := 2) C dX9_readsTraffic_103 fc_X9 sh_9 (hG 9 (by decide)) rfl (by decide) wd_360 hF.1 ?_
              refine tw_iconst C dX9_readsTraffic_106 (v := nI 3) (by decide) ?_
              refine tw_callV (As := [.int (nI (uA1 (bs.getD (s + 1) 0) s)), .int (nI 3)]) (rest := []) C N (e_X7_number hG (S := UF B F pk) hq (xs := bs) (UF_R hq10 hbs) (f := uA1 (bs.getD (s + 1) 0) s) (i := 3) (by omega) (by omega)) mm_X7_number wd_413 rfl (hG _ (tw_row_lt hq).2) (tw_row_sh hq) rfl (by decide) rfl (Nat.le_of_ble_eq_true rfl) dX9_readsTraffic_107 ?_
              rintro _ _ ⟨rfl, rfl⟩
              show TW G X (UF B F pk) [(7, .int (nI 0)), (5, .long (lN 0)), (4, .int (nI (bs.getD (uA1 (bs.getD (s + 1) 0) s) 0))), (3, .int (nI 3)), (2, .int (nI (uTF ((bs.getD s 0))))), (0, .ref (tw_ad G 9)), (1, .ref (tw_ad G q))] 110 [.long (lN (nb bs (uA1 (bs.getD (s + 1) 0) s) 3))]
              refine tw_ldc2 C dX9_readsTraffic_110 wd_408 (w := lN 1048575) (by decide) ?_
              refine tw_land C dX9_readsTraffic_113 (v := lN ((nb bs (uA1 (bs.getD (s + 1) 0) s) 3) % 1048576)) (lN_andm 20) ?_
              refine tw_lstore (L' := [(5, .long (lN ((nb bs (uA1 (bs.getD (s + 1) 0) s) 3) % 1048576))), (7, .int (nI 0)), (4, .int (nI (bs.getD (uA1 (bs.getD (s + 1) 0) s) 0))), (3, .int (nI 3)), (2, .int (nI (uTF ((bs.getD s 0))))), (0, .ref (tw_ad G 9)), (1, .ref (tw_ad G q))]) C N dX9_readsTraffic_114 (i := 5) (by decide) rfl ?_
              refine tw_iload C dX9_readsTraffic_116 2 rfl ?_
              refine tw_bipush C dX9_readsTraffic_118 (v := nI 48) (by decide) ?_
              refine tw_iand C dX9_readsTraffic_120 (v := nI ((bs.getD (uA1 (bs.getD (s + 1) 0) s) 0) &&& 48)) (nI_and _ _) ?_
              refine tw_istore (L' := [(7, .int (nI ((bs.getD (uA1 (bs.getD (s + 1) 0) s) 0) &&& 48))), (5, .long (lN ((nb bs (uA1 (bs.getD (s + 1) 0) s) 3) % 1048576))), (4, .int (nI (bs.getD (uA1 (bs.getD (s + 1) 0) s) 0))), (3, .int (nI 3)), (2, .int (nI (uTF ((bs.getD s 0))))), (0, .ref (tw_ad G 9)), (1, .ref (tw_ad G q))]) C N dX9_readsTraffic_121 (i := 7) (by decide) rfl ?_
              refine tw_iload C dX9_readsTraffic_123 0 rfl ?_
              refine tn_if_eq C dX9_readsTraffic_125 (tgt := 138) (by decide) (by omega) (fun cw => ?_) (fun cw => ?_)
              · skip
                refine tw_iload_n C dX9_readsTraffic_138 4 rfl ?_
                refine tw_iconst C dX9_readsTraffic_139 (v := nI 1) (by decide) ?_
                refine tn_icmp_ne C dX9_readsTraffic_140 (tgt := 147) (by decide) (by omega) (by omega) (fun cz => ?_) (fun cz => ?_)
                · exact absurd qz (by omega)
                refine tw_iconst C dX9_readsTraffic_143 (v := nI 0) (by decide) ?_
                refine tw_goto C dX9_readsTraffic_144 (tgt := 152) (by decide) ?_
                refine tw_istore (L' := [(8, .int (nI 0)), (7, .int (nI ((bs.getD (uA1 (bs.getD (s + 1) 0) s) 0) &&& 48))), (5, .long (lN ((nb bs (uA1 (bs.getD (s + 1) 0) s) 3) % 1048576))), (4, .int (nI (bs.getD (uA1 (bs.getD (s + 1) 0) s) 0))), (3, .int (nI 3)), (2, .int (nI (uTF ((bs.getD s 0))))), (0, .ref (tw_ad G 9)), (1, .ref (tw_ad G q))]) C N dX9_readsTraffic_152 (i := 8) (by decide) rfl ?_
                refine tw_aload_n C dX9_readsTraffic_154 6 rfl ?_
                refine tw_getR (q := 10) (k := 1) C dX9_readsTraffic_155 fc_X9 sh_9 (hG 9 (by decide)) rfl (by decide) wd_64 ?_
                refine tw_iconst C dX9_readsTraffic_158 (v := nI 0) (by decide) ?_
                refine tw_iload C dX9_readsTraffic_159 0 rfl ?_
                refine tw_iconst C dX9_readsTraffic_161 (v := nI 2) (by decide) ?_
                refine tw_ishl C dX9_readsTraffic_162 (v := nI (0 * 4)) (nI_shl _ 2 (by decide)) ?_
                refine tw_iload C dX9_readsTraffic_163 3 rfl ?_
                refine tw_bipush C dX9_readsTraffic_165 (v := nI 6) (by decide) ?_
                refine tw_ishr C dX9_readsTraffic_167 (v := nI ((bs.getD (uA1 (bs.getD (s + 1) 0) s) 0) / 64)) (nI_shr (by omega) 6 (by decide)) ?_
                refine tw_ior C dX9_readsTraffic_168 (v := nI ((0 * 4) + ((bs.getD (uA1 (bs.getD (s + 1) 0) s) 0) / 64))) (by rw [nI_or, or4 (by omega)]) ?_
                refine tw_lload C dX9_readsTraffic_169 2 rfl ?_
                refine tw_l2i C dX9_readsTraffic_171 (v := nI ((nb bs (uA1 (bs.getD (s + 1) 0) s) 3) % 1048576)) (lN_i32 _) ?_
                refine tw_callS (As := [.int (nI ((0 * 4) + ((bs.getD (uA1 (bs.getD (s + 1) 0) s) 0) / 64))), .int (nI ((nb bs (uA1 (bs.getD (s + 1) 0) s) 3) % 1048576))]) (rest := [.int (nI 0), .ref (tw_ad G 10)]) C N (c_X5_firstFour hG (S := UF B F pk) (t := (0 * 4) + ((bs.getD (uA1 (bs.getD (s + 1) 0) s) 0) / 64)) (l := (nb bs (uA1 (bs.getD (s + 1) 0) s) 3) % 1048576) (by omega) (by omega)) mm_X5_firstFour wd_414 rfl (by decide) rfl (Nat.le_of_ble_eq_true rfl) dX9_readsTraffic_172 ?_
                rintro _ _ ⟨rfl, rfl⟩
                show TW G X (UF B F pk) [(8, .int (nI 0)), (7, .int (nI ((bs.getD (uA1 (bs.getD (s + 1) 0) s) 0) &&& 48))), (5, .long (lN ((nb bs (uA1 (bs.getD (s + 1) 0) s) 3) % 1048576))), (4, .int (nI (bs.getD (uA1 (bs.getD (s + 1) 0) s) 0))), (3, .int (nI 3)), (2, .int (nI (uTF ((bs.getD s 0))))), (0, .ref (tw_ad G 9)), (1, .ref (tw_ad G q))] 175 [.long (lN (ff ((0 * 4) + ((bs.getD (uA1 (bs.getD (s + 1) 0) s) 0) / 64)) ((nb bs (uA1 (bs.getD (s + 1) 0) s) 3) % 1048576))), .int (nI 0), .ref (tw_ad G 10)]
                refine tw_iconst C dX9_readsTraffic_175 (v := nI 4) (by decide) ?_
                refine tw_callV (As := [.int (nI 0), .long (lN (ff ((0 * 4) + ((bs.getD (uA1 (bs.getD (s + 1) 0) s) 0) / 64)) ((nb bs (uA1 (bs.getD (s + 1) 0) s) 3) % 1048576))), .int (nI 4)]) (rest := []) C N (e_X7_setNumber hG (S := UF B F pk) tw_row10 (xs := pk) rfl (f := 0) (v := ff ((0 * 4) + ((bs.getD (uA1 (bs.getD (s + 1) 0) s) 0) / 64)) ((nb bs (uA1 (bs.getD (s + 1) 0) s) 3) % 1048576)) (i := 4) (by omega) (by unfold ff; omega) (by omega)) mm_X7_setNumber wd_415 rfl (hG 10 (by decide)) sh_10 rfl (by decide) rfl (Nat.le_of_ble_eq_true rfl) dX9_readsTraffic_176 ?_
                rintro _ _ rfl
                show TW G X (tw_uR (UF B F pk) 10 (setN pk 0 (be (ff ((0 * 4) + ((bs.getD (uA1 (bs.getD (s + 1) 0) s) 0) / 64)) ((nb bs (uA1 (bs.getD (s + 1) 0) s) 3) % 1048576)) 4))) [(8, .int (nI 0)), (7, .int (nI ((bs.getD (uA1 (bs.getD (s + 1) 0) s) 0) &&& 48))), (5, .long (lN ((nb bs (uA1 (bs.getD (s + 1) 0) s) 3) % 1048576))), (4, .int (nI (bs.getD (uA1 (bs.getD (s + 1) 0) s) 0))), (3, .int (nI 3)), (2, .int (nI (uTF ((bs.getD s 0))))), (0, .ref (tw_ad G 9)), (1, .ref (tw_ad G q))] 179 []
                refine TW.sS (S' := UF B F (setN pk 0 (be (ff ((0 * 4) + ((bs.getD (uA1 (bs.getD (s + 1) 0) s) 0) / 64)) ((nb bs (uA1 (bs.getD (s + 1) 0) s) 3) % 1048576)) 4))) (UF_uR _ _ _ _) ?_
                refine tw_aload_n C dX9_readsTraffic_179 6 rfl ?_
                refine tw_dup C dX9_readsTraffic_180 rfl ?_
                refine tw_getI (v := nI (uA1 (bs.getD (s + 1) 0) s)) (k := 2) C dX9_readsTraffic_181 fc_X9 sh_9 (hG 9 (by decide)) rfl (by decide) wd_360 hF.1 ?_
                refine tw_iload_n C dX9_readsTraffic_184 4 rfl ?_
                refine tw_iadd C dX9_readsTraffic_185 (v := nI ((uA1 (bs.getD (s + 1) 0) s) + 3)) (nI_add _ _) ?_
                refine tw_putI (k := 2) C dX9_readsTraffic_186 fc_X9 sh_9 (hG 9 (by decide)) rfl (by decide) rfl wd_360 rfl rfl ?_
                refine TW.sS (S' := UF B (upd F 2 (nI ((uA1 (bs.getD (s + 1) 0) s) + 3))) (setN pk 0 (be (ff ((0 * 4) + ((bs.getD (uA1 (bs.getD (s + 1) 0) s) 0) / 64)) ((nb bs (uA1 (bs.getD (s + 1) 0) s) 3) % 1048576)) 4))) (UF_uI _ _ _ _ _) ?_
                refine tw_iconst C dX9_readsTraffic_189 (v := nI 1) (by decide) ?_
                exact tw_ireturn C Q dX9_readsTraffic_190 rfl rfl rfl (Or.inl ⟨⟨h2, by unfold uA2; omega, by simp only [uWr, qz]; simp only [Nat.reduceEqDiff, if_true, if_false]; try omega⟩, rfl, upd F 2 (nI ((uA1 (bs.getD (s + 1) 0) s) + 3)), by simp only [uT, uL, uFb, qz, Nat.reduceEqDiff, if_true, if_false, Nat.zero_mul, Nat.zero_add, Nat.zero_div, Nat.zero_mod]; try rfl, by unfold uA2; rw [h2t]; rfl, hF.2.1, hF.2.2.1, hF.2.2.2.1, hF.2.2.2.2.1, hF.2.2.2.2.2.1, hF.2.2.2.2.2.2⟩)
              · skip
                refine tw_aload_n C dX9_readsTraffic_128 5 rfl ?_
                refine tw_iconst C dX9_readsTraffic_129 (v := nI 5) (by decide) ?_
                refine tw_aload_n C dX9_readsTraffic_130 5 rfl ?_
                refine tw_getI (v := nI (uA1 (bs.getD (s + 1) 0) s)) (k := 2) C dX9_readsTraffic_131 fc_X9 sh_9 (hG 9 (by decide)) rfl (by decide) wd_360 hF.1 ?_
                refine tw_callV (As := [.int (nI 5), .int (nI (uA1 (bs.getD (s + 1) 0) s))]) (rest := []) C N (c_X9_fails hG (B := B) (F := F) (pk := pk) (f := 5) (p := uA1 (bs.getD (s + 1) 0) s)) mm_X9_fails wd_381 rfl (hG 9 (by decide)) sh_9 rfl (by decide) rfl (Nat.le_of_ble_eq_true rfl) dX9_readsTraffic_134 ?_
                rintro _ _ ⟨rfl, rfl⟩
                show TW G X (UF B (upd (upd F 3 (nI 5)) 4 (nI (uA1 (bs.getD (s + 1) 0) s))) pk) [(7, .int (nI ((bs.getD (uA1 (bs.getD (s + 1) 0) s) 0) &&& 48))), (5, .long (lN ((nb bs (uA1 (bs.getD (s + 1) 0) s) 3) % 1048576))), (4, .int (nI (bs.getD (uA1 (bs.getD (s + 1) 0) s) 0))), (3, .int (nI 3)), (2, .int (nI (uTF ((bs.getD s 0))))), (0, .ref (tw_ad G 9)), (1, .ref (tw_ad G q))] 137 [.int (bI false)]
                exact tw_ireturn C Q dX9_readsTraffic_137 rfl (bI_nar _) rfl (Or.inr ⟨rfl, uFail_of (uFt_t2 h2 (by unfold uA2; omega) (by simp only [uWr, qz]; simp only [Nat.reduceEqDiff, if_true, if_false]; omega)) (by decide) rfl rfl rfl⟩)
            · exact absurd qz (by omega)
          · exact absurd c15 (by decide)
        · exact absurd c14 (by decide)
      · show TW G X (UF B (upd (upd F 3 (nI 1)) 4 (nI bs.length)) pk) [(3, .int (nI 3)), (2, .int (nI (uTF ((bs.getD s 0))))), (0, .ref (tw_ad G 9)), (1, .ref (tw_ad G q))] 39 [.int (bI false)]
        refine tb_if_ne C dX9_readsTraffic_39 (tgt := 44) (by decide) (fun c21 => ?_) (fun c21 => ?_)
        · exact absurd c21 (by decide)
        refine tw_iconst C dX9_readsTraffic_42 (v := nI 0) (by decide) ?_
        exact tw_ireturn C Q dX9_readsTraffic_43 rfl rfl rfl (Or.inr ⟨rfl, uFail_of (uFt_t1 h2 (by unfold uA2; omega)) (by decide) rfl rfl rfl⟩)
    · exact absurd qz (by omega)
  · have h2t : tfN (uTF (bs.getD s 0)) = 1 := by rw [qz]; rfl
    refine tw_istore_n (L' := [(2, .int (nI (uTF ((bs.getD s 0))))), (0, .ref (tw_ad G 9)), (1, .ref (tw_ad G q))]) C N dX9_readsTraffic_4 rfl (by decide) rfl ?_
    refine tw_iload_n C dX9_readsTraffic_5 0 rfl ?_
    refine tn_if_ne C dX9_readsTraffic_6 (tgt := 13) (by decide) (by omega) (fun cz => ?_) (fun cz => ?_)
    · skip
      refine tw_iload_n C dX9_readsTraffic_13 0 rfl ?_
      refine tw_iconst C dX9_readsTraffic_14 (v := nI 1) (by decide) ?_
      refine tn_icmp_ne C dX9_readsTraffic_15 (tgt := 22) (by decide) (by omega) (by omega) (fun cz => ?_) (fun cz => ?_)
      · skip
        refine tw_iload_n C dX9_readsTraffic_22 0 rfl ?_
        refine tw_iconst C dX9_readsTraffic_23 (v := nI 2) (by decide) ?_
        refine tn_icmp_ne C dX9_readsTraffic_24 (tgt := 31) (by decide) (by omega) (by omega) (fun cz => ?_) (fun cz => ?_)
        · exact absurd qz (by omega)
        refine tw_iconst C dX9_readsTraffic_27 (v := nI 1) (by decide) ?_
        refine tw_goto C dX9_readsTraffic_28 (tgt := 32) (by decide) ?_
        refine tw_istore_n (L' := [(3, .int (nI 1)), (2, .int (nI (uTF ((bs.getD s 0))))), (0, .ref (tw_ad G 9)), (1, .ref (tw_ad G q))]) C N dX9_readsTraffic_32 rfl (by decide) rfl ?_
        refine tw_aload_n C dX9_readsTraffic_33 2 rfl ?_
        refine tw_aload_n C dX9_readsTraffic_34 3 rfl ?_
        refine tw_iload_n C dX9_readsTraffic_35 0 rfl ?_
        refine tw_callV (As := [.ref (tw_ad G q), .int (nI 1)]) (rest := []) C N (c_X9_has hG (B := B) (F := F) (pk := pk) hq hq10 hbs hby hlen (a := uA1 (bs.getD (s + 1) 0) s) (m := 1) hF.1 (by omega) (by omega)) mm_X9_has wd_376 rfl (hG 9 (by decide)) sh_9 rfl (by decide) rfl (Nat.le_of_ble_eq_true rfl) dX9_readsTraffic_36 ?_
        rintro _ _ (⟨hh22, rfl, rfl⟩ | ⟨hh22, rfl, rfl⟩)
        · show TW G X (UF B F pk) [(3, .int (nI 1)), (2, .int (nI (uTF ((bs.getD s 0))))), (0, .ref (tw_ad G 9)), (1, .ref (tw_ad G q))] 39 [.int (bI true)]
          refine tb_if_ne C dX9_readsTraffic_39 (tgt := 44) (by decide) (fun c24 => ?_) (fun c24 => ?_)
          · skip
            refine tw_iload_n C dX9_readsTraffic_44 0 rfl ?_
            refine tn_if_ne C dX9_readsTraffic_45 (tgt := 52) (by decide) (by omega) (fun c25 => ?_) (fun c25 => ?_)
            · skip
              refine tw_aload_n C dX9_readsTraffic_52 3 rfl ?_
              refine tw_aload_n C dX9_readsTraffic_53 2 rfl ?_
              refine tw_getI (v := nI (uA1 (bs.getD (s + 1) 0) s)) (k := 2) C dX9_readsTraffic_54 fc_X9 sh_9 (hG 9 (by decide)) rfl (by decide) wd_360 hF.1 ?_
              refine tw_callV (As := [.int (nI (uA1 (bs.getD (s + 1) 0) s))]) (rest := []) C N (e_X7_at hG (S := UF B F pk) hq (xs := bs) (UF_R hq10 hbs) (i := uA1 (bs.getD (s + 1) 0) s) (by omega)) mm_X7_at wd_385 rfl (hG _ (tw_row_lt hq).2) (tw_row_sh hq) rfl (by decide) rfl (Nat.le_of_ble_eq_true rfl) dX9_readsTraffic_57 ?_
              rintro _ _ ⟨rfl, rfl⟩
              show TW G X (UF B F pk) [(3, .int (nI 1)), (2, .int (nI (uTF ((bs.getD s 0))))), (0, .ref (tw_ad G 9)), (1, .ref (tw_ad G q))] 60 [.int (nI (bs.getD (uA1 (bs.getD (s + 1) 0) s) 0))]
              refine tw_istore (L' := [(4, .int (nI (bs.getD (uA1 (bs.getD (s + 1) 0) s) 0))), (3, .int (nI 1)), (2, .int (nI (uTF ((bs.getD s 0))))), (0, .ref (tw_ad G 9)), (1, .ref (tw_ad G q))]) C N dX9_readsTraffic_60 (i := 4) (by decide) rfl ?_
              refine tw_lconst C dX9_readsTraffic_62 (v := lN 0) rfl ?_
              refine tw_lstore (L' := [(5, .long (lN 0)), (4, .int (nI (bs.getD (uA1 (bs.getD (s + 1) 0) s) 0))), (3, .int (nI 1)), (2, .int (nI (uTF ((bs.getD s 0))))), (0, .ref (tw_ad G 9)), (1, .ref (tw_ad G q))]) C N dX9_readsTraffic_63 (i := 5) (by decide) rfl ?_
              refine tw_iconst C dX9_readsTraffic_65 (v := nI 0) (by decide) ?_
              refine tw_istore (L' := [(7, .int (nI 0)), (5, .long (lN 0)), (4, .int (nI (bs.getD (uA1 (bs.getD (s + 1) 0) s) 0))), (3, .int (nI 1)), (2, .int (nI (uTF ((bs.getD s 0))))), (0, .ref (tw_ad G 9)), (1, .ref (tw_ad G q))]) C N dX9_readsTraffic_66 (i := 7) (by decide) rfl ?_
              refine tw_iload_n C dX9_readsTraffic_68 4 rfl ?_
              refine tn_if_ne C dX9_readsTraffic_69 (tgt := 96) (by decide) (by omega) (fun cz => ?_) (fun cz => ?_)
              · skip
                refine tw_iload_n C dX9_readsTraffic_96 4 rfl ?_
                refine tw_iconst C dX9_readsTraffic_97 (v := nI 1) (by decide) ?_
                refine tn_icmp_ne C dX9_readsTraffic_98 (tgt := 123) (by decide) (by omega) (by omega) (fun cz => ?_) (fun cz => ?_)
                · skip
                  refine tw_iload C dX9_readsTraffic_123 0 rfl ?_
                  refine tn_if_eq C dX9_readsTraffic_125 (tgt := 138) (by decide) (by omega) (fun cw => ?_) (fun cw => ?_)
                  · skip
                    refine tw_iload_n C dX9_readsTraffic_138 4 rfl ?_
                    refine tw_iconst C dX9_readsTraffic_139 (v := nI 1) (by decide) ?_
                    refine tn_icmp_ne C dX9_readsTraffic_140 (tgt := 147) (by decide) (by omega) (by omega) (fun cz => ?_) (fun cz => ?_)
                    · skip
                      refine tw_iload C dX9_readsTraffic_147 2 rfl ?_
                      refine tw_bipush C dX9_readsTraffic_149 (v := nI 63) (by decide) ?_
                      refine tw_iand C dX9_readsTraffic_151 (v := nI ((bs.getD (uA1 (bs.getD (s + 1) 0) s) 0) % 64)) (nI_andm 6 (by decide)) ?_
                      refine tw_istore (L' := [(8, .int (nI ((bs.getD (uA1 (bs.getD (s + 1) 0) s) 0) % 64))), (7, .int (nI 0)), (5, .long (lN 0)), (4, .int (nI (bs.getD (uA1 (bs.getD (s + 1) 0) s) 0))), (3, .int (nI 1)), (2, .int (nI (uTF ((bs.getD s 0))))), (0, .ref (tw_ad G 9)), (1, .ref (tw_ad G q))]) C N dX9_readsTraffic_152 (i := 8) (by decide) rfl ?_
                      refine tw_aload_n C dX9_readsTraffic_154 6 rfl ?_
                      refine tw_getR (q := 10) (k := 1) C dX9_readsTraffic_155 fc_X9 sh_9 (hG 9 (by decide)) rfl (by decide) wd_64 ?_
                      refine tw_iconst C dX9_readsTraffic_158 (v := nI 0) (by decide) ?_
                      refine tw_iload C dX9_readsTraffic_159 0 rfl ?_
                      refine tw_iconst C dX9_readsTraffic_161 (v := nI 2) (by decide) ?_
                      refine tw_ishl C dX9_readsTraffic_162 (v := nI (((bs.getD (uA1 (bs.getD (s + 1) 0) s) 0) % 64) * 4)) (nI_shl _ 2 (by decide)) ?_
                      refine tw_iload C dX9_readsTraffic_163 3 rfl ?_
                      refine tw_bipush C dX9_readsTraffic_165 (v := nI 6) (by decide) ?_
                      refine tw_ishr C dX9_readsTraffic_167 (v := nI ((bs.getD (uA1 (bs.getD (s + 1) 0) s) 0) / 64)) (nI_shr (by omega) 6 (by decide)) ?_
                      refine tw_ior C dX9_readsTraffic_168 (v := nI ((((bs.getD (uA1 (bs.getD (s + 1) 0) s) 0) % 64) * 4) + ((bs.getD (uA1 (bs.getD (s + 1) 0) s) 0) / 64))) (by rw [nI_or, or4 (by omega)]) ?_
                      refine tw_lload C dX9_readsTraffic_169 2 rfl ?_
                      refine tw_l2i C dX9_readsTraffic_171 (v := nI 0) (lN_i32 _) ?_
                      refine tw_callS (As := [.int (nI ((((bs.getD (uA1 (bs.getD (s + 1) 0) s) 0) % 64) * 4) + ((bs.getD (uA1 (bs.getD (s + 1) 0) s) 0) / 64))), .int (nI 0)]) (rest := [.int (nI 0), .ref (tw_ad G 10)]) C N (c_X5_firstFour hG (S := UF B F pk) (t := (((bs.getD (uA1 (bs.getD (s + 1) 0) s) 0) % 64) * 4) + ((bs.getD (uA1 (bs.getD (s + 1) 0) s) 0) / 64)) (l := 0) (by omega) (by omega)) mm_X5_firstFour wd_414 rfl (by decide) rfl (Nat.le_of_ble_eq_true rfl) dX9_readsTraffic_172 ?_
                      rintro _ _ ⟨rfl, rfl⟩
                      show TW G X (UF B F pk) [(8, .int (nI ((bs.getD (uA1 (bs.getD (s + 1) 0) s) 0) % 64))), (7, .int (nI 0)), (5, .long (lN 0)), (4, .int (nI (bs.getD (uA1 (bs.getD (s + 1) 0) s) 0))), (3, .int (nI 1)), (2, .int (nI (uTF ((bs.getD s 0))))), (0, .ref (tw_ad G 9)), (1, .ref (tw_ad G q))] 175 [.long (lN (ff ((((bs.getD (uA1 (bs.getD (s + 1) 0) s) 0) % 64) * 4) + ((bs.getD (uA1 (bs.getD (s + 1) 0) s) 0) / 64)) 0)), .int (nI 0), .ref (tw_ad G 10)]
                      refine tw_iconst C dX9_readsTraffic_175 (v := nI 4) (by decide) ?_
                      refine tw_callV (As := [.int (nI 0), .long (lN (ff ((((bs.getD (uA1 (bs.getD (s + 1) 0) s) 0) % 64) * 4) + ((bs.getD (uA1 (bs.getD (s + 1) 0) s) 0) / 64)) 0)), .int (nI 4)]) (rest := []) C N (e_X7_setNumber hG (S := UF B F pk) tw_row10 (xs := pk) rfl (f := 0) (v := ff ((((bs.getD (uA1 (bs.getD (s + 1) 0) s) 0) % 64) * 4) + ((bs.getD (uA1 (bs.getD (s + 1) 0) s) 0) / 64)) 0) (i := 4) (by omega) (by unfold ff; omega) (by omega)) mm_X7_setNumber wd_415 rfl (hG 10 (by decide)) sh_10 rfl (by decide) rfl (Nat.le_of_ble_eq_true rfl) dX9_readsTraffic_176 ?_
                      rintro _ _ rfl
                      show TW G X (tw_uR (UF B F pk) 10 (setN pk 0 (be (ff ((((bs.getD (uA1 (bs.getD (s + 1) 0) s) 0) % 64) * 4) + ((bs.getD (uA1 (bs.getD (s + 1) 0) s) 0) / 64)) 0) 4))) [(8, .int (nI ((bs.getD (uA1 (bs.getD (s + 1) 0) s) 0) % 64))), (7, .int (nI 0)), (5, .long (lN 0)), (4, .int (nI (bs.getD (uA1 (bs.getD (s + 1) 0) s) 0))), (3, .int (nI 1)), (2, .int (nI (uTF ((bs.getD s 0))))), (0, .ref (tw_ad G 9)), (1, .ref (tw_ad G q))] 179 []
                      refine TW.sS (S' := UF B F (setN pk 0 (be (ff ((((bs.getD (uA1 (bs.getD (s + 1) 0) s) 0) % 64) * 4) + ((bs.getD (uA1 (bs.getD (s + 1) 0) s) 0) / 64)) 0) 4))) (UF_uR _ _ _ _) ?_
                      refine tw_aload_n C dX9_readsTraffic_179 6 rfl ?_
                      refine tw_dup C dX9_readsTraffic_180 rfl ?_
                      refine tw_getI (v := nI (uA1 (bs.getD (s + 1) 0) s)) (k := 2) C dX9_readsTraffic_181 fc_X9 sh_9 (hG 9 (by decide)) rfl (by decide) wd_360 hF.1 ?_
                      refine tw_iload_n C dX9_readsTraffic_184 4 rfl ?_
                      refine tw_iadd C dX9_readsTraffic_185 (v := nI ((uA1 (bs.getD (s + 1) 0) s) + 1)) (nI_add _ _) ?_
                      refine tw_putI (k := 2) C dX9_readsTraffic_186 fc_X9 sh_9 (hG 9 (by decide)) rfl (by decide) rfl wd_360 rfl rfl ?_
                      refine TW.sS (S' := UF B (upd F 2 (nI ((uA1 (bs.getD (s + 1) 0) s) + 1))) (setN pk 0 (be (ff ((((bs.getD (uA1 (bs.getD (s + 1) 0) s) 0) % 64) * 4) + ((bs.getD (uA1 (bs.getD (s + 1) 0) s) 0) / 64)) 0) 4))) (UF_uI _ _ _ _ _) ?_
                      refine tw_iconst C dX9_readsTraffic_189 (v := nI 1) (by decide) ?_
                      exact tw_ireturn C Q dX9_readsTraffic_190 rfl rfl rfl (Or.inl ⟨⟨h2, by unfold uA2; omega, by simp only [uWr, qz]; simp only [Nat.reduceEqDiff, if_true, if_false]; try omega⟩, rfl, upd F 2 (nI ((uA1 (bs.getD (s + 1) 0) s) + 1)), by simp only [uT, uL, uFb, qz, Nat.reduceEqDiff, if_true, if_false, Nat.zero_mul, Nat.zero_add, Nat.zero_div, Nat.zero_mod]; try rfl, by unfold uA2; rw [h2t]; rfl, hF.2.1, hF.2.2.1, hF.2.2.2.1, hF.2.2.2.2.1, hF.2.2.2.2.2.1, hF.2.2.2.2.2.2⟩)
                    · exact absurd qz (by omega)
                  · exact absurd cw (by decide)
                · exact absurd qz (by omega)
              · exact absurd qz (by omega)
            · exact absurd c25 (by decide)
          · exact absurd c24 (by decide)
        · show TW G X (UF B (upd (upd F 3 (nI 1)) 4 (nI bs.length)) pk) [(3, .int (nI 1)), (2, .int (nI (uTF ((bs.getD s 0))))), (0, .ref (tw_ad G 9)), (1, .ref (tw_ad G q))] 39 [.int (bI false)]
          refine tb_if_ne C dX9_readsTraffic_39 (tgt := 44) (by decide) (fun c29 => ?_) (fun c29 => ?_)
          · exact absurd c29 (by decide)
          refine tw_iconst C dX9_readsTraffic_42 (v := nI 0) (by decide) ?_
          exact tw_ireturn C Q dX9_readsTraffic_43 rfl rfl rfl (Or.inr ⟨rfl, uFail_of (uFt_t1 h2 (by unfold uA2; omega)) (by decide) rfl rfl rfl⟩)
      · exact absurd qz (by omega)
    · exact absurd qz (by omega)
  · have h2t : tfN (uTF (bs.getD s 0)) = 0 := by rw [qz]; rfl
    refine tw_istore_n (L' := [(2, .int (nI (uTF ((bs.getD s 0))))), (0, .ref (tw_ad G 9)), (1, .ref (tw_ad G q))]) C N dX9_readsTraffic_4 rfl (by decide) rfl ?_
    refine tw_iload_n C dX9_readsTraffic_5 0 rfl ?_
    refine tn_if_ne C dX9_readsTraffic_6 (tgt := 13) (by decide) (by omega) (fun cz => ?_) (fun cz => ?_)
    · skip
      refine tw_iload_n C dX9_readsTraffic_13 0 rfl ?_
      refine tw_iconst C dX9_readsTraffic_14 (v := nI 1) (by decide) ?_
      refine tn_icmp_ne C dX9_readsTraffic_15 (tgt := 22) (by decide) (by omega) (by omega) (fun cz => ?_) (fun cz => ?_)
      · skip
        refine tw_iload_n C dX9_readsTraffic_22 0 rfl ?_
        refine tw_iconst C dX9_readsTraffic_23 (v := nI 2) (by decide) ?_
        refine tn_icmp_ne C dX9_readsTraffic_24 (tgt := 31) (by decide) (by omega) (by omega) (fun cz => ?_) (fun cz => ?_)
        · skip
          refine tw_iconst C dX9_readsTraffic_31 (v := nI 0) (by decide) ?_
          refine tw_istore_n (L' := [(3, .int (nI 0)), (2, .int (nI (uTF ((bs.getD s 0))))), (0, .ref (tw_ad G 9)), (1, .ref (tw_ad G q))]) C N dX9_readsTraffic_32 rfl (by decide) rfl ?_
          refine tw_aload_n C dX9_readsTraffic_33 2 rfl ?_
          refine tw_aload_n C dX9_readsTraffic_34 3 rfl ?_
          refine tw_iload_n C dX9_readsTraffic_35 0 rfl ?_
          refine tw_callV (As := [.ref (tw_ad G q), .int (nI 0)]) (rest := []) C N (c_X9_has hG (B := B) (F := F) (pk := pk) hq hq10 hbs hby hlen (a := uA1 (bs.getD (s + 1) 0) s) (m := 0) hF.1 (by omega) (by omega)) mm_X9_has wd_376 rfl (hG 9 (by decide)) sh_9 rfl (by decide) rfl (Nat.le_of_ble_eq_true rfl) dX9_readsTraffic_36 ?_
          rintro _ _ (⟨hh30, rfl, rfl⟩ | ⟨hh30, rfl, rfl⟩)
          · show TW G X (UF B F pk) [(3, .int (nI 0)), (2, .int (nI (uTF ((bs.getD s 0))))), (0, .ref (tw_ad G 9)), (1, .ref (tw_ad G q))] 39 [.int (bI true)]
            refine tb_if_ne C dX9_readsTraffic_39 (tgt := 44) (by decide) (fun c32 => ?_) (fun c32 => ?_)
            · skip
              refine tw_iload_n C dX9_readsTraffic_44 0 rfl ?_
              refine tn_if_ne C dX9_readsTraffic_45 (tgt := 52) (by decide) (by omega) (fun c33 => ?_) (fun c33 => ?_)
              · exact absurd c33 (by decide)
              refine tw_iconst C dX9_readsTraffic_48 (v := nI 0) (by decide) ?_
              refine tw_goto C dX9_readsTraffic_49 (tgt := 60) (by decide) ?_
              refine tw_istore (L' := [(4, .int (nI 0)), (3, .int (nI 0)), (2, .int (nI (uTF ((bs.getD s 0))))), (0, .ref (tw_ad G 9)), (1, .ref (tw_ad G q))]) C N dX9_readsTraffic_60 (i := 4) (by decide) rfl ?_
              refine tw_lconst C dX9_readsTraffic_62 (v := lN 0) rfl ?_
              refine tw_lstore (L' := [(5, .long (lN 0)), (4, .int (nI 0)), (3, .int (nI 0)), (2, .int (nI (uTF ((bs.getD s 0))))), (0, .ref (tw_ad G 9)), (1, .ref (tw_ad G q))]) C N dX9_readsTraffic_63 (i := 5) (by decide) rfl ?_
              refine tw_iconst C dX9_readsTraffic_65 (v := nI 0) (by decide) ?_
              refine tw_istore (L' := [(7, .int (nI 0)), (5, .long (lN 0)), (4, .int (nI 0)), (3, .int (nI 0)), (2, .int (nI (uTF ((bs.getD s 0))))), (0, .ref (tw_ad G 9)), (1, .ref (tw_ad G q))]) C N dX9_readsTraffic_66 (i := 7) (by decide) rfl ?_
              refine tw_iload_n C dX9_readsTraffic_68 4 rfl ?_
              refine tn_if_ne C dX9_readsTraffic_69 (tgt := 96) (by decide) (by omega) (fun cz => ?_) (fun cz => ?_)
              · skip
                refine tw_iload_n C dX9_readsTraffic_96 4 rfl ?_
                refine tw_iconst C dX9_readsTraffic_97 (v := nI 1) (by decide) ?_
                refine tn_icmp_ne C dX9_readsTraffic_98 (tgt := 123) (by decide) (by omega) (by omega) (fun cz => ?_) (fun cz => ?_)
                · skip
                  refine tw_iload C dX9_readsTraffic_123 0 rfl ?_
                  refine tn_if_eq C dX9_readsTraffic_125 (tgt := 138) (by decide) (by omega) (fun cw => ?_) (fun cw => ?_)
                  · skip
                    refine tw_iload_n C dX9_readsTraffic_138 4 rfl ?_
                    refine tw_iconst C dX9_readsTraffic_139 (v := nI 1) (by decide) ?_
                    refine tn_icmp_ne C dX9_readsTraffic_140 (tgt := 147) (by decide) (by omega) (by omega) (fun cz => ?_) (fun cz => ?_)
                    · skip
                      refine tw_iload C dX9_readsTraffic_147 2 rfl ?_
                      refine tw_bipush C dX9_readsTraffic_149 (v := nI 63) (by decide) ?_
                      refine tw_iand C dX9_readsTraffic_151 (v := nI (0 % 64)) (nI_andm 6 (by decide)) ?_
                      refine tw_istore (L' := [(8, .int (nI (0 % 64))), (7, .int (nI 0)), (5, .long (lN 0)), (4, .int (nI 0)), (3, .int (nI 0)), (2, .int (nI (uTF ((bs.getD s 0))))), (0, .ref (tw_ad G 9)), (1, .ref (tw_ad G q))]) C N dX9_readsTraffic_152 (i := 8) (by decide) rfl ?_
                      refine tw_aload_n C dX9_readsTraffic_154 6 rfl ?_
                      refine tw_getR (q := 10) (k := 1) C dX9_readsTraffic_155 fc_X9 sh_9 (hG 9 (by decide)) rfl (by decide) wd_64 ?_
                      refine tw_iconst C dX9_readsTraffic_158 (v := nI 0) (by decide) ?_
                      refine tw_iload C dX9_readsTraffic_159 0 rfl ?_
                      refine tw_iconst C dX9_readsTraffic_161 (v := nI 2) (by decide) ?_
                      refine tw_ishl C dX9_readsTraffic_162 (v := nI ((0 % 64) * 4)) (nI_shl _ 2 (by decide)) ?_
                      refine tw_iload C dX9_readsTraffic_163 3 rfl ?_
                      refine tw_bipush C dX9_readsTraffic_165 (v := nI 6) (by decide) ?_
                      refine tw_ishr C dX9_readsTraffic_167 (v := nI (0 / 64)) (nI_shr (by omega) 6 (by decide)) ?_
                      refine tw_ior C dX9_readsTraffic_168 (v := nI (((0 % 64) * 4) + (0 / 64))) (by rw [nI_or, or4 (by omega)]) ?_
                      refine tw_lload C dX9_readsTraffic_169 2 rfl ?_
                      refine tw_l2i C dX9_readsTraffic_171 (v := nI 0) (lN_i32 _) ?_
                      refine tw_callS (As := [.int (nI (((0 % 64) * 4) + (0 / 64))), .int (nI 0)]) (rest := [.int (nI 0), .ref (tw_ad G 10)]) C N (c_X5_firstFour hG (S := UF B F pk) (t := ((0 % 64) * 4) + (0 / 64)) (l := 0) (by omega) (by omega)) mm_X5_firstFour wd_414 rfl (by decide) rfl (Nat.le_of_ble_eq_true rfl) dX9_readsTraffic_172 ?_
                      rintro _ _ ⟨rfl, rfl⟩
                      show TW G X (UF B F pk) [(8, .int (nI (0 % 64))), (7, .int (nI 0)), (5, .long (lN 0)), (4, .int (nI 0)), (3, .int (nI 0)), (2, .int (nI (uTF ((bs.getD s 0))))), (0, .ref (tw_ad G 9)), (1, .ref (tw_ad G q))] 175 [.long (lN (ff (((0 % 64) * 4) + (0 / 64)) 0)), .int (nI 0), .ref (tw_ad G 10)]
                      refine tw_iconst C dX9_readsTraffic_175 (v := nI 4) (by decide) ?_
                      refine tw_callV (As := [.int (nI 0), .long (lN (ff (((0 % 64) * 4) + (0 / 64)) 0)), .int (nI 4)]) (rest := []) C N (e_X7_setNumber hG (S := UF B F pk) tw_row10 (xs := pk) rfl (f := 0) (v := ff (((0 % 64) * 4) + (0 / 64)) 0) (i := 4) (by omega) (by unfold ff; omega) (by omega)) mm_X7_setNumber wd_415 rfl (hG 10 (by decide)) sh_10 rfl (by decide) rfl (Nat.le_of_ble_eq_true rfl) dX9_readsTraffic_176 ?_
                      rintro _ _ rfl
                      show TW G X (tw_uR (UF B F pk) 10 (setN pk 0 (be (ff (((0 % 64) * 4) + (0 / 64)) 0) 4))) [(8, .int (nI (0 % 64))), (7, .int (nI 0)), (5, .long (lN 0)), (4, .int (nI 0)), (3, .int (nI 0)), (2, .int (nI (uTF ((bs.getD s 0))))), (0, .ref (tw_ad G 9)), (1, .ref (tw_ad G q))] 179 []
                      refine TW.sS (S' := UF B F (setN pk 0 (be (ff (((0 % 64) * 4) + (0 / 64)) 0) 4))) (UF_uR _ _ _ _) ?_
                      refine tw_aload_n C dX9_readsTraffic_179 6 rfl ?_
                      refine tw_dup C dX9_readsTraffic_180 rfl ?_
                      refine tw_getI (v := nI (uA1 (bs.getD (s + 1) 0) s)) (k := 2) C dX9_readsTraffic_181 fc_X9 sh_9 (hG 9 (by decide)) rfl (by decide) wd_360 hF.1 ?_
                      refine tw_iload_n C dX9_readsTraffic_184 4 rfl ?_
                      refine tw_iadd C dX9_readsTraffic_185 (v := nI ((uA1 (bs.getD (s + 1) 0) s) + 0)) (nI_add _ _) ?_
                      refine tw_putI (k := 2) C dX9_readsTraffic_186 fc_X9 sh_9 (hG 9 (by decide)) rfl (by decide) rfl wd_360 rfl rfl ?_
                      refine TW.sS (S' := UF B (upd F 2 (nI ((uA1 (bs.getD (s + 1) 0) s) + 0))) (setN pk 0 (be (ff (((0 % 64) * 4) + (0 / 64)) 0) 4))) (UF_uI _ _ _ _ _) ?_
                      refine tw_iconst C dX9_readsTraffic_189 (v := nI 1) (by decide) ?_
                      exact tw_ireturn C Q dX9_readsTraffic_190 rfl rfl rfl (Or.inl ⟨⟨h2, by unfold uA2; omega, by simp only [uWr, qz]; simp only [Nat.reduceEqDiff, if_true, if_false]; try omega⟩, rfl, upd F 2 (nI ((uA1 (bs.getD (s + 1) 0) s) + 0)), by simp only [uT, uL, uFb, qz, Nat.reduceEqDiff, if_true, if_false, Nat.zero_mul, Nat.zero_add, Nat.zero_div, Nat.zero_mod]; try rfl, by unfold uA2; rw [h2t]; rfl, hF.2.1, hF.2.2.1, hF.2.2.2.1, hF.2.2.2.2.1, hF.2.2.2.2.2.1, hF.2.2.2.2.2.2⟩)
                    · exact absurd qz (by omega)
                  · exact absurd cw (by decide)
                · exact absurd qz (by omega)
              · exact absurd qz (by omega)
            · exact absurd c32 (by decide)
          · show TW G X (UF B (upd (upd F 3 (nI 1)) 4 (nI bs.length)) pk) [(3, .int (nI 0)), (2, .int (nI (uTF ((bs.getD s 0))))), (0, .ref (tw_ad G 9)), (1, .ref (tw_ad G q))] 39 [.int (bI false)]
            refine tb_if_ne C dX9_readsTraffic_39 (tgt := 44) (by decide) (fun c36 => ?_) (fun c36 => ?_)
            · exact absurd c36 (by decide)
            refine tw_iconst C dX9_readsTraffic_42 (v := nI 0) (by decide) ?_
            exact tw_ireturn C Q dX9_readsTraffic_43 rfl rfl rfl (Or.inr ⟨rfl, uFail_of (uFt_t1 h2 (by unfold uA2; omega)) (by decide) rfl rfl rfl⟩)
        · exact absurd qz (by omega)
      · exact absurd qz (by omega)
    · exact absurd qz (by omega)
theorem c_X9_readsKind {G : tw_G} (hG : tw_cG G) {B : tw_S} {F : Nat → Int32} {pk : List Nat} {q : Nat} (hq : tw_isRow q = true) (hq10 : q ≠ 10) {bs : List Nat} (hbs : tw_R B q = bs) (hby : ∀ x ∈ bs, x < 256) (hlen : bs.length ≤ 640) {a : Nat} {b0 : Nat} {x6 x7 x8 : Int32} (ha : a ≤ bs.length) (hb0 : b0 < 256) (hF : UK F a 0 0 (nI b0) x6 x7 x8) : tw_M G yX9_readsKind cX9_readsKind 2 (some .boolean) 2 44 [.ref (tw_ad G 9), .ref (tw_ad G q)] (UF B F pk) ri_I (fun v S' => (a + (if uPo b0 then 0 else 1) ≤ bs.length ∧ v = bI true ∧ uGo B S' (a + (if uPo b0 then 0 else 1)) (nI b0) x6 x7 x8 (pk.set 6 (if uPo b0 then 17 else bs.getD a 0))) ∨ (bs.length < a + (if uPo b0 then 0 else 1) ∧ v = bI false ∧ uFail B S' (1, bs.length))) := by
  refine tw_M.of (L := [(0, .ref (tw_ad G 9)), (1, .ref (tw_ad G q))]) (by decide) (Nat.le_of_ble_eq_true rfl) rfl (fun X C N Q => ?_)
  have C : tw_C G X cX9_readsKind RX9 := C
  refine tw_aload_n C dX9_readsKind_0 0 rfl ?_
  refine tw_callV (As := []) (rest := []) C N (c_X9_ports hG (B := B) (F := F) (pk := pk) (b0 := b0) hF.2.2.2.1 (by assumption)) mm_X9_ports wd_427 rfl (hG 9 (by decide)) sh_9 rfl (by decide) rfl (Nat.le_of_ble_eq_true rfl) dX9_readsKind_1 ?_
  rintro _ _ ⟨rfl, rfl⟩
  show TW G X (UF B F pk) [(0, .ref (tw_ad G 9)), (1, .ref (tw_ad G q))] 4 [.int (bI (uPo b0))]
  refine tb_if_eq C dX9_readsKind_4 (tgt := 20) (by decide) (fun cp => ?_) (fun cp => ?_)
  · skip
    refine tw_aload_n C dX9_readsKind_20 0 rfl ?_
    refine tw_aload_n C dX9_readsKind_21 1 rfl ?_
    refine tw_iconst C dX9_readsKind_22 (v := nI 1) (by decide) ?_
    refine tw_callV (As := [.ref (tw_ad G q), .int (nI 1)]) (rest := []) C N (c_X9_has hG (B := B) (F := F) (pk := pk) hq hq10 hbs hby hlen (a := a) (m := 1) hF.1 (by omega) (by omega)) mm_X9_has wd_376 rfl (hG 9 (by decide)) sh_9 rfl (by decide) rfl (Nat.le_of_ble_eq_true rfl) dX9_readsKind_23 ?_
    rintro _ _ (⟨hh2, rfl, rfl⟩ | ⟨hh2, rfl, rfl⟩)
    · show TW G X (UF B F pk) [(0, .ref (tw_ad G 9)), (1, .ref (tw_ad G q))] 26 [.int (bI true)]
      refine tb_if_ne C dX9_readsKind_26 (tgt := 31) (by decide) (fun c4 => ?_) (fun c4 => ?_)
      · skip
        refine tw_aload_n C dX9_readsKind_31 0 rfl ?_
        refine tw_getR (q := 10) (k := 1) C dX9_readsKind_32 fc_X9 sh_9 (hG 9 (by decide)) rfl (by decide) wd_64 ?_
        refine tw_bipush C dX9_readsKind_35 (v := nI 6) (by decide) ?_
        refine tw_aload_n C dX9_readsKind_37 0 rfl ?_
        refine tw_aload_n C dX9_readsKind_38 1 rfl ?_
        refine tw_callV (As := [.ref (tw_ad G q)]) (rest := [.int (nI 6), .ref (tw_ad G 10)]) C N (c_X9_next hG (B := B) (F := F) (pk := pk) hq hq10 hbs hby hlen (a := a) hF.1 (by omega)) mm_X9_next wd_386 rfl (hG 9 (by decide)) sh_9 rfl (by decide) rfl (Nat.le_of_ble_eq_true rfl) dX9_readsKind_39 ?_
        rintro _ _ ⟨rfl, rfl⟩
        show TW G X (UF B (upd F 2 (nI (a + 1))) pk) [(0, .ref (tw_ad G 9)), (1, .ref (tw_ad G q))] 42 [.int (nI (bs.getD a 0)), .int (nI 6), .ref (tw_ad G 10)]
        refine tw_callV (As := [.int (nI 6), .int (nI (bs.getD a 0))]) (rest := []) C N (e_X7_set hG (S := UF B (upd F 2 (nI (a + 1))) pk) tw_row10 (xs := pk) rfl (x := bs.getD a 0) (i := 6) (by omega)) mm_X7_set wd_431 rfl (hG 10 (by decide)) sh_10 rfl (by decide) rfl (Nat.le_of_ble_eq_true rfl) dX9_readsKind_42 ?_
        rintro _ _ rfl
        show TW G X (tw_uR (UF B (upd F 2 (nI (a + 1))) pk) 10 (pk.set 6 ((bs.getD a 0) % 256))) [(0, .ref (tw_ad G 9)), (1, .ref (tw_ad G q))] 45 []
        refine TW.sS (S' := UF B (upd F 2 (nI (a + 1))) (pk.set 6 ((bs.getD a 0) % 256))) (UF_uR _ _ _ _) ?_
        refine tw_iconst C dX9_readsKind_45 (v := nI 1) (by decide) ?_
        exact tw_ireturn C Q dX9_readsKind_46 rfl rfl rfl (Or.inl ⟨by rw [if_neg (by rw [cp]; decide)]; omega, rfl, upd F 2 (nI (a + 1)), by rw [if_neg (by rw [cp]; decide), Nat.mod_eq_of_lt (getD_in hby a)], by rw [if_neg (by rw [cp]; decide)]; rfl, hF.2.1, hF.2.2.1, hF.2.2.2.1, hF.2.2.2.2.1, hF.2.2.2.2.2.1, hF.2.2.2.2.2.2⟩)
      · exact absurd c4 (by decide)
    · show TW G X (UF B (upd (upd F 3 (nI 1)) 4 (nI bs.length)) pk) [(0, .ref (tw_ad G 9)), (1, .ref (tw_ad G q))] 26 [.int (bI false)]
      refine tb_if_ne C dX9_readsKind_26 (tgt := 31) (by decide) (fun c7 => ?_) (fun c7 => ?_)
      · exact absurd c7 (by decide)
      refine tw_iconst C dX9_readsKind_29 (v := nI 0) (by decide) ?_
      exact tw_ireturn C Q dX9_readsKind_30 rfl rfl rfl (Or.inr ⟨by rw [if_neg (by rw [cp]; decide)]; omega, rfl, Nat.one_ne_zero, _, _, rfl, rfl, rfl⟩)
  · skip
    refine tw_aload_n C dX9_readsKind_7 0 rfl ?_
    refine tw_getR (q := 10) (k := 1) C dX9_readsKind_8 fc_X9 sh_9 (hG 9 (by decide)) rfl (by decide) wd_64 ?_
    refine tw_bipush C dX9_readsKind_11 (v := nI 6) (by decide) ?_
    refine tw_bipush C dX9_readsKind_13 (v := nI 17) (by decide) ?_
    refine tw_callV (As := [.int (nI 6), .int (nI 17)]) (rest := []) C N (e_X7_set hG (S := UF B F pk) tw_row10 (xs := pk) rfl (x := 17) (i := 6) (by omega)) mm_X7_set wd_431 rfl (hG 10 (by decide)) sh_10 rfl (by decide) rfl (Nat.le_of_ble_eq_true rfl) dX9_readsKind_15 ?_
    rintro _ _ rfl
    show TW G X (tw_uR (UF B F pk) 10 (pk.set 6 (17 % 256))) [(0, .ref (tw_ad G 9)), (1, .ref (tw_ad G q))] 18 []
    refine TW.sS (S' := UF B F (pk.set 6 (17 % 256))) (UF_uR _ _ _ _) ?_
    refine tw_iconst C dX9_readsKind_18 (v := nI 1) (by decide) ?_
    exact tw_ireturn C Q dX9_readsKind_19 rfl rfl rfl (Or.inl ⟨by rw [if_pos cp]; omega, rfl, F, by rw [if_pos cp], by rw [if_pos cp]; exact hF.1, hF.2.1, hF.2.2.1, hF.2.2.2.1, hF.2.2.2.2.1, hF.2.2.2.2.2.1, hF.2.2.2.2.2.2⟩)
theorem c_X9_readsHops {G : tw_G} (hG : tw_cG G) {B : tw_S} {F : Nat → Int32} {pk : List Nat} {q : Nat} (hq : tw_isRow q = true) (hq10 : q ≠ 10) {bs : List Nat} (hbs : tw_R B q = bs) (hby : ∀ x ∈ bs, x < 256) (hlen : bs.length ≤ 640) {a : Nat} {b0 : Nat} {x6 x7 x8 : Int32} (ha : a ≤ bs.length) (hb0 : b0 < 256) (hF : UK F a 0 0 (nI b0) x6 x7 x8) : tw_M G yX9_readsHops cX9_readsHops 4 (some .boolean) 2 44 [.ref (tw_ad G 9), .ref (tw_ad G q)] (UF B F pk) ri_I (fun v S' => (a + (if uHL b0 = 0 then 1 else 0) ≤ bs.length ∧ v = bI true ∧ uGo B S' (a + (if uHL b0 = 0 then 1 else 0)) (nI b0) x6 x7 x8 (pk.set 7 (if uHL b0 = 0 then bs.getD a 0 else if uHL b0 = 1 then 1 else if uHL b0 = 2 then 64 else 255))) ∨ (bs.length < a + (if uHL b0 = 0 then 1 else 0) ∧ v = bI false ∧ uFail B S' (1, bs.length))) := by
  refine tw_M.of (L := [(0, .ref (tw_ad G 9)), (1, .ref (tw_ad G q))]) (by decide) (Nat.le_of_ble_eq_true rfl) rfl (fun X C N Q => ?_)
  have C : tw_C G X cX9_readsHops RX9 := C
  have hhl : uHL b0 < 4 := Nat.mod_lt _ (by decide)
  refine tw_aload_n C dX9_readsHops_0 0 rfl ?_
  refine tw_getI (v := nI b0) (k := 5) C dX9_readsHops_1 fc_X9 sh_9 (hG 9 (by decide)) rfl (by decide) wd_374 hF.2.2.2.1 ?_
  refine tw_iconst C dX9_readsHops_4 (v := nI 3) (by decide) ?_
  refine tw_iand C dX9_readsHops_5 (v := nI (b0 % 4)) (nI_andm 2 (by decide)) ?_
  show TW G X (UF B F pk) [(0, .ref (tw_ad G 9)), (1, .ref (tw_ad G q))] 6 [.int (nI (uHL b0))]
  rcases (show uHL b0 = 0 ∨ uHL b0 = 1 ∨ uHL b0 = 2 ∨ uHL b0 = 3 by omega) with qz | qz | qz | qz
  · skip
    refine tw_istore_n (L' := [(2, .int (nI (uHL b0))), (0, .ref (tw_ad G 9)), (1, .ref (tw_ad G q))]) C N dX9_readsHops_6 rfl (by decide) rfl ?_
    refine tw_iload_n C dX9_readsHops_7 0 rfl ?_
    refine tn_if_ne C dX9_readsHops_8 (tgt := 22) (by decide) (by omega) (fun cz => ?_) (fun cz => ?_)
    · exact absurd qz (by have hx : uHL b0 = b0 % 4 := rfl; omega)
    refine tw_aload_n C dX9_readsHops_11 1 rfl ?_
    refine tw_aload_n C dX9_readsHops_12 2 rfl ?_
    refine tw_iconst C dX9_readsHops_13 (v := nI 1) (by decide) ?_
    refine tw_callV (As := [.ref (tw_ad G q), .int (nI 1)]) (rest := []) C N (c_X9_has hG (B := B) (F := F) (pk := pk) hq hq10 hbs hby hlen (a := a) (m := 1) hF.1 (by omega) (by omega)) mm_X9_has wd_376 rfl (hG 9 (by decide)) sh_9 rfl (by decide) rfl (Nat.le_of_ble_eq_true rfl) dX9_readsHops_14 ?_
    rintro _ _ (⟨hh1, rfl, rfl⟩ | ⟨hh1, rfl, rfl⟩)
    · show TW G X (UF B F pk) [(2, .int (nI (uHL b0))), (0, .ref (tw_ad G 9)), (1, .ref (tw_ad G q))] 17 [.int (bI true)]
      refine tb_if_ne C dX9_readsHops_17 (tgt := 22) (by decide) (fun c3 => ?_) (fun c3 => ?_)
      · skip
        refine tw_iload_n C dX9_readsHops_22 0 rfl ?_
        refine tn_if_ne C dX9_readsHops_23 (tgt := 34) (by decide) (by omega) (fun cz => ?_) (fun cz => ?_)
        · exact absurd qz (by have hx : uHL b0 = b0 % 4 := rfl; omega)
        refine tw_aload_n C dX9_readsHops_26 1 rfl ?_
        refine tw_aload_n C dX9_readsHops_27 2 rfl ?_
        refine tw_callV (As := [.ref (tw_ad G q)]) (rest := []) C N (c_X9_next hG (B := B) (F := F) (pk := pk) hq hq10 hbs hby hlen (a := a) hF.1 (by omega)) mm_X9_next wd_386 rfl (hG 9 (by decide)) sh_9 rfl (by decide) rfl (Nat.le_of_ble_eq_true rfl) dX9_readsHops_28 ?_
        rintro _ _ ⟨rfl, rfl⟩
        show TW G X (UF B (upd F 2 (nI (a + 1))) pk) [(2, .int (nI (uHL b0))), (0, .ref (tw_ad G 9)), (1, .ref (tw_ad G q))] 31 [.int (nI (bs.getD a 0))]
        refine tw_goto C dX9_readsHops_31 (tgt := 56) (by decide) ?_
        refine tw_istore_n (L' := [(3, .int (nI (bs.getD a 0))), (2, .int (nI (uHL b0))), (0, .ref (tw_ad G 9)), (1, .ref (tw_ad G q))]) C N dX9_readsHops_56 rfl (by decide) rfl ?_
        refine tw_aload_n C dX9_readsHops_57 2 rfl ?_
        refine tw_getR (q := 10) (k := 1) C dX9_readsHops_58 fc_X9 sh_9 (hG 9 (by decide)) rfl (by decide) wd_64 ?_
        refine tw_bipush C dX9_readsHops_61 (v := nI 7) (by decide) ?_
        refine tw_iload_n C dX9_readsHops_63 0 rfl ?_
        refine tw_callV (As := [.int (nI 7), .int (nI (bs.getD a 0))]) (rest := []) C N (e_X7_set hG (S := UF B (upd F 2 (nI (a + 1))) pk) tw_row10 (xs := pk) rfl (x := bs.getD a 0) (i := 7) (by omega)) mm_X7_set wd_431 rfl (hG 10 (by decide)) sh_10 rfl (by decide) rfl (Nat.le_of_ble_eq_true rfl) dX9_readsHops_64 ?_
        rintro _ _ rfl
        show TW G X (tw_uR (UF B (upd F 2 (nI (a + 1))) pk) 10 (pk.set 7 ((bs.getD a 0) % 256))) [(3, .int (nI (bs.getD a 0))), (2, .int (nI (uHL b0))), (0, .ref (tw_ad G 9)), (1, .ref (tw_ad G q))] 67 []
        refine TW.sS (S' := UF B (upd F 2 (nI (a + 1))) (pk.set 7 ((bs.getD a 0) % 256))) (UF_uR _ _ _ _) ?_
        refine tw_iconst C dX9_readsHops_67 (v := nI 1) (by decide) ?_
        exact tw_ireturn C Q dX9_readsHops_68 rfl rfl rfl (Or.inl ⟨by rw [if_pos qz]; omega, rfl, upd F 2 (nI (a + 1)), by rw [if_pos qz, Nat.mod_eq_of_lt (getD_in hby a)], by rw [if_pos qz]; rfl, hF.2.1, hF.2.2.1, hF.2.2.2.1, hF.2.2.2.2.1, hF.2.2.2.2.2.1, hF.2.2.2.2.2.2⟩)
      · exact absurd c3 (by decide)
    · show TW G X (UF B (upd (upd F 3 (nI 1)) 4 (nI bs.length)) pk) [(2, .int (nI (uHL b0))), (0, .ref (tw_ad G 9)), (1, .ref (tw_ad G q))] 17 [.int (bI false)]
      refine tb_if_ne C dX9_readsHops_17 (tgt := 22) (by decide) (fun c6 => ?_) (fun c6 => ?_)
      · exact absurd c6 (by decide)
      refine tw_iconst C dX9_readsHops_20 (v := nI 0) (by decide) ?_
      exact tw_ireturn C Q dX9_readsHops_21 rfl rfl rfl (Or.inr ⟨by rw [if_pos qz]; omega, rfl, Nat.one_ne_zero, _, _, rfl, rfl, rfl⟩)
  · skip
    refine tw_istore_n (L' := [(2, .int (nI (uHL b0))), (0, .ref (tw_ad G 9)), (1, .ref (tw_ad G q))]) C N dX9_readsHops_6 rfl (by decide) rfl ?_
    refine tw_iload_n C dX9_readsHops_7 0 rfl ?_
    refine tn_if_ne C dX9_readsHops_8 (tgt := 22) (by decide) (by omega) (fun cz => ?_) (fun cz => ?_)
    · skip
      refine tw_iload_n C dX9_readsHops_22 0 rfl ?_
      refine tn_if_ne C dX9_readsHops_23 (tgt := 34) (by decide) (by omega) (fun cz => ?_) (fun cz => ?_)
      · skip
        refine tw_iload_n C dX9_readsHops_34 0 rfl ?_
        refine tw_iconst C dX9_readsHops_35 (v := nI 1) (by decide) ?_
        refine tn_icmp_ne C dX9_readsHops_36 (tgt := 43) (by decide) (by omega) (by omega) (fun cz => ?_) (fun cz => ?_)
        · exact absurd qz (by have hx : uHL b0 = b0 % 4 := rfl; omega)
        refine tw_iconst C dX9_readsHops_39 (v := nI 1) (by decide) ?_
        refine tw_goto C dX9_readsHops_40 (tgt := 56) (by decide) ?_
        refine tw_istore_n (L' := [(3, .int (nI 1)), (2, .int (nI (uHL b0))), (0, .ref (tw_ad G 9)), (1, .ref (tw_ad G q))]) C N dX9_readsHops_56 rfl (by decide) rfl ?_
        refine tw_aload_n C dX9_readsHops_57 2 rfl ?_
        refine tw_getR (q := 10) (k := 1) C dX9_readsHops_58 fc_X9 sh_9 (hG 9 (by decide)) rfl (by decide) wd_64 ?_
        refine tw_bipush C dX9_readsHops_61 (v := nI 7) (by decide) ?_
        refine tw_iload_n C dX9_readsHops_63 0 rfl ?_
        refine tw_callV (As := [.int (nI 7), .int (nI 1)]) (rest := []) C N (e_X7_set hG (S := UF B F pk) tw_row10 (xs := pk) rfl (x := 1) (i := 7) (by omega)) mm_X7_set wd_431 rfl (hG 10 (by decide)) sh_10 rfl (by decide) rfl (Nat.le_of_ble_eq_true rfl) dX9_readsHops_64 ?_
        rintro _ _ rfl
        show TW G X (tw_uR (UF B F pk) 10 (pk.set 7 (1 % 256))) [(3, .int (nI 1)), (2, .int (nI (uHL b0))), (0, .ref (tw_ad G 9)), (1, .ref (tw_ad G q))] 67 []
        refine TW.sS (S' := UF B F (pk.set 7 (1 % 256))) (UF_uR _ _ _ _) ?_
        refine tw_iconst C dX9_readsHops_67 (v := nI 1) (by decide) ?_
        exact tw_ireturn C Q dX9_readsHops_68 rfl rfl rfl (Or.inl ⟨by rw [if_neg (by omega)]; omega, rfl, F, by simp only [qz, Nat.reduceEqDiff, if_true, if_false], by rw [if_neg (by omega)]; exact hF.1, hF.2.1, hF.2.2.1, hF.2.2.2.1, hF.2.2.2.2.1, hF.2.2.2.2.2.1, hF.2.2.2.2.2.2⟩)
      · exact absurd qz (by have hx : uHL b0 = b0 % 4 := rfl; omega)
    · exact absurd qz (by have hx : uHL b0 = b0 % 4 := rfl; omega)
  · skip
    refine tw_istore_n (L' := [(2, .int (nI (uHL b0))), (0, .ref (tw_ad G 9)), (1, .ref (tw_ad G q))]) C N dX9_readsHops_6 rfl (by decide) rfl ?_
    refine tw_iload_n C dX9_readsHops_7 0 rfl ?_
    refine tn_if_ne C dX9_readsHops_8 (tgt := 22) (by decide) (by omega) (fun cz => ?_) (fun cz => ?_)
    · skip
      refine tw_iload_n C dX9_readsHops_22 0 rfl ?_
      refine tn_if_ne C dX9_readsHops_23 (tgt := 34) (by decide) (by omega) (fun cz => ?_) (fun cz => ?_)
      · skip
        refine tw_iload_n C dX9_readsHops_34 0 rfl ?_
        refine tw_iconst C dX9_readsHops_35 (v := nI 1) (by decide) ?_
        refine tn_icmp_ne C dX9_readsHops_36 (tgt := 43) (by decide) (by omega) (by omega) (fun cz => ?_) (fun cz => ?_)
        · skip
          refine tw_iload_n C dX9_readsHops_43 0 rfl ?_
          refine tw_iconst C dX9_readsHops_44 (v := nI 2) (by decide) ?_
          refine tn_icmp_ne C dX9_readsHops_45 (tgt := 53) (by decide) (by omega) (by omega) (fun cz => ?_) (fun cz => ?_)
          · exact absurd qz (by have hx : uHL b0 = b0 % 4 := rfl; omega)
          refine tw_bipush C dX9_readsHops_48 (v := nI 64) (by decide) ?_
          refine tw_goto C dX9_readsHops_50 (tgt := 56) (by decide) ?_
          refine tw_istore_n (L' := [(3, .int (nI 64)), (2, .int (nI (uHL b0))), (0, .ref (tw_ad G 9)), (1, .ref (tw_ad G q))]) C N dX9_readsHops_56 rfl (by decide) rfl ?_
          refine tw_aload_n C dX9_readsHops_57 2 rfl ?_
          refine tw_getR (q := 10) (k := 1) C dX9_readsHops_58 fc_X9 sh_9 (hG 9 (by decide)) rfl (by decide) wd_64 ?_
          refine tw_bipush C dX9_readsHops_61 (v := nI 7) (by decide) ?_
          refine tw_iload_n C dX9_readsHops_63 0 rfl ?_
          refine tw_callV (As := [.int (nI 7), .int (nI 64)]) (rest := []) C N (e_X7_set hG (S := UF B F pk) tw_row10 (xs := pk) rfl (x := 64) (i := 7) (by omega)) mm_X7_set wd_431 rfl (hG 10 (by decide)) sh_10 rfl (by decide) rfl (Nat.le_of_ble_eq_true rfl) dX9_readsHops_64 ?_
          rintro _ _ rfl
          show TW G X (tw_uR (UF B F pk) 10 (pk.set 7 (64 % 256))) [(3, .int (nI 64)), (2, .int (nI (uHL b0))), (0, .ref (tw_ad G 9)), (1, .ref (tw_ad G q))] 67 []
          refine TW.sS (S' := UF B F (pk.set 7 (64 % 256))) (UF_uR _ _ _ _) ?_
          refine tw_iconst C dX9_readsHops_67 (v := nI 1) (by decide) ?_
          exact tw_ireturn C Q dX9_readsHops_68 rfl rfl rfl (Or.inl ⟨by rw [if_neg (by omega)]; omega, rfl, F, by simp only [qz, Nat.reduceEqDiff, if_true, if_false], by rw [if_neg (by omega)]; exact hF.1, hF.2.1, hF.2.2.1, hF.2.2.2.1, hF.2.2.2.2.1, hF.2.2.2.2.2.1, hF.2.2.2.2.2.2⟩)
        · exact absurd qz (by have hx : uHL b0 = b0 % 4 := rfl; omega)
      · exact absurd qz (by have hx : uHL b0 = b0 % 4 := rfl; omega)
    · exact absurd qz (by have hx : uHL b0 = b0 % 4 := rfl; omega)
  · skip
    refine tw_istore_n (L' := [(2, .int (nI (uHL b0))), (0, .ref (tw_ad G 9)), (1, .ref (tw_ad G q))]) C N dX9_readsHops_6 rfl (by decide) rfl ?_
    refine tw_iload_n C dX9_readsHops_7 0 rfl ?_
    refine tn_if_ne C dX9_readsHops_8 (tgt := 22) (by decide) (by omega) (fun cz => ?_) (fun cz => ?_)
    · skip
      refine tw_iload_n C dX9_readsHops_22 0 rfl ?_
      refine tn_if_ne C dX9_readsHops_23 (tgt := 34) (by decide) (by omega) (fun cz => ?_) (fun cz => ?_)
      · skip
        refine tw_iload_n C dX9_readsHops_34 0 rfl ?_
        refine tw_iconst C dX9_readsHops_35 (v := nI 1) (by decide) ?_
        refine tn_icmp_ne C dX9_readsHops_36 (tgt := 43) (by decide) (by omega) (by omega) (fun cz => ?_) (fun cz => ?_)
        · skip
          refine tw_iload_n C dX9_readsHops_43 0 rfl ?_
          refine tw_iconst C dX9_readsHops_44 (v := nI 2) (by decide) ?_
          refine tn_icmp_ne C dX9_readsHops_45 (tgt := 53) (by decide) (by omega) (by omega) (fun cz => ?_) (fun cz => ?_)
          · skip
            refine tw_sipush C dX9_readsHops_53 (v := nI 255) (by decide) ?_
            refine tw_istore_n (L' := [(3, .int (nI 255)), (2, .int (nI (uHL b0))), (0, .ref (tw_ad G 9)), (1, .ref (tw_ad G q))]) C N dX9_readsHops_56 rfl (by decide) rfl ?_
            refine tw_aload_n C dX9_readsHops_57 2 rfl ?_
            refine tw_getR (q := 10) (k := 1) C dX9_readsHops_58 fc_X9 sh_9 (hG 9 (by decide)) rfl (by decide) wd_64 ?_
            refine tw_bipush C dX9_readsHops_61 (v := nI 7) (by decide) ?_
            refine tw_iload_n C dX9_readsHops_63 0 rfl ?_
            refine tw_callV (As := [.int (nI 7), .int (nI 255)]) (rest := []) C N (e_X7_set hG (S := UF B F pk) tw_row10 (xs := pk) rfl (x := 255) (i := 7) (by omega)) mm_X7_set wd_431 rfl (hG 10 (by decide)) sh_10 rfl (by decide) rfl (Nat.le_of_ble_eq_true rfl) dX9_readsHops_64 ?_
            rintro _ _ rfl
            show TW G X (tw_uR (UF B F pk) 10 (pk.set 7 (255 % 256))) [(3, .int (nI 255)), (2, .int (nI (uHL b0))), (0, .ref (tw_ad G 9)), (1, .ref (tw_ad G q))] 67 []
            refine TW.sS (S' := UF B F (pk.set 7 (255 % 256))) (UF_uR _ _ _ _) ?_
            refine tw_iconst C dX9_readsHops_67 (v := nI 1) (by decide) ?_
            exact tw_ireturn C Q dX9_readsHops_68 rfl rfl rfl (Or.inl ⟨by rw [if_neg (by omega)]; omega, rfl, F, by simp only [qz, Nat.reduceEqDiff, if_true, if_false], by rw [if_neg (by omega)]; exact hF.1, hF.2.1, hF.2.2.1, hF.2.2.2.1, hF.2.2.2.2.1, hF.2.2.2.2.2.1, hF.2.2.2.2.2.2⟩)
          · exact absurd qz (by have hx : uHL b0 = b0 % 4 := rfl; omega)
        · exact absurd qz (by have hx : uHL b0 = b0 % 4 := rfl; omega)
      · exact absurd qz (by have hx : uHL b0 = b0 % 4 := rfl; omega)
    · exact absurd qz (by have hx : uHL b0 = b0 % 4 := rfl; omega)
theorem c_X9_firstEight0 {G : tw_G} (hG : tw_cG G) {B : tw_S} {F : Nat → Int32} {pk : List Nat} {K : kN} (hK : KN B K) {m cx : Nat} (hm : m < 2 ^ 31) (hcx : cx < 256) (hF : F 7 = nI cx) : tw_M G yX9_firstEight cX9_firstEight 3 (some .long) 2 42 [.ref (tw_ad G 9), .int (nI m), .int (nI 8)] (UF B F pk) ri_J (fun v S' => v = lN (uFe K m (cx / 16)) ∧ S' = UF B F pk) := by
  refine tw_M.of (L := [(0, .ref (tw_ad G 9)), (1, .int (nI m)), (2, .int (nI 8))]) (by decide) (Nat.le_of_ble_eq_true rfl) rfl (fun X C N Q => ?_)
  have C : tw_C G X cX9_firstEight RX9 := C
  refine tw_iload_n C dX9_firstEight_0 1 rfl ?_
  refine tw_callS (As := [.int (nI m)]) (rest := []) C N (c_X4_usesContext hG (S := UF B F pk) (m := m) (by omega)) mm_X4_usesContext wd_402 rfl (by decide) rfl (Nat.le_of_ble_eq_true rfl) dX9_firstEight_1 ?_
  rintro _ _ ⟨rfl, rfl⟩
  show TW G X (UF B F pk) [(0, .ref (tw_ad G 9)), (1, .int (nI m)), (2, .int (nI 8))] 4 [.int (bI (decide (4 < m ∧ m < 8)))]
  refine tb_if_ne C dX9_firstEight_4 (tgt := 11) (by decide) (fun cu => ?_) (fun cu => ?_)
  · skip
    refine tw_aload_n C dX9_firstEight_11 0 rfl ?_
    refine tw_getR (q := 5) (k := 0) C dX9_firstEight_12 fc_X9 sh_9 (hG 9 (by decide)) rfl (by decide) wd_65 ?_
    refine tw_iload_n C dX9_firstEight_15 2 rfl ?_
    refine tw_bipush C dX9_firstEight_16 (v := nI 8) (by decide) ?_
    refine tn_icmp_ne C dX9_firstEight_18 (tgt := 30) (by decide) (by omega) (by omega) (fun c2 => ?_) (fun c2 => ?_)
    · exact absurd c2 (by decide)
    refine tw_aload_n C dX9_firstEight_21 0 rfl ?_
    refine tw_getI (v := nI cx) (k := 7) C dX9_firstEight_22 fc_X9 sh_9 (hG 9 (by decide)) rfl (by decide) wd_363 hF ?_
    refine tw_iconst C dX9_firstEight_25 (v := nI 4) (by decide) ?_
    refine tw_ishr C dX9_firstEight_26 (v := nI (cx / 16)) (nI_shr (by omega) 4 (by decide)) ?_
    refine tw_goto C dX9_firstEight_27 (tgt := 37) (by decide) ?_
    refine tw_callV (As := [.int (nI (cx / 16))]) (rest := []) C N (c_X3_contextOf hG (S := UF B F pk) hK (i := cx / 16) (by omega)) mm_X3_contextOf wd_448 rfl (hG 5 (by decide)) sh_5 rfl (by decide) rfl (Nat.le_of_ble_eq_true rfl) dX9_firstEight_37 ?_
    rintro _ _ ⟨rfl, rfl⟩
    show TW G X (UF B F pk) [(0, .ref (tw_ad G 9)), (1, .int (nI m)), (2, .int (nI 8))] 40 [.long (lN (if cx / 16 < 16 ∧ kT K (cx / 16) = true then kV K (cx / 16) else 0))]
    exact tw_lreturn C Q dX9_firstEight_40 rfl rfl ⟨by unfold uFe; rw [if_pos (show 4 < m ∧ m < 8 by simpa using cu)], rfl⟩
  · skip
    refine tw_ldc2 C dX9_firstEight_7 wd_447 (w := lN 18338657682652659712) (by decide) ?_
    exact tw_lreturn C Q dX9_firstEight_10 rfl rfl ⟨by unfold uFe; rw [if_neg (show ¬ (4 < m ∧ m < 8) by simpa using cu)], rfl⟩
theorem orA {v : Nat} (h : v < 65536) : 1099478073344 ||| v = 1099478073344 + v := by
  have := Nat.two_pow_add_eq_or_of_lt (i := 16) (b := v) h 16776704
  simp only [Nat.reducePow, Nat.reduceMul] at this
  exact this.symm
theorem c_X9_lastEight0 {G : tw_G} (hG : tw_cG G) {B : tw_S} {F : Nat → Int32} {pk : List Nat} {K : kN} (hK : KN B K) {m v : Nat} (hm : m < 2 ^ 31) (hv : v < 2 ^ 64) (hv2 : m % 4 = 2 → v < 65536) : tw_M G yX9_lastEight cX9_lastEight 5 (some .long) 1 21 [.ref (tw_ad G 9), .int (nI m), .int (nI 8), .long (lN v)] (UF B F pk) ri_J (fun x S' => x = lN (uLe K m 0 v) ∧ S' = UF B F pk) := by
  refine tw_M.of (L := [(0, .ref (tw_ad G 9)), (1, .int (nI m)), (2, .int (nI 8)), (3, .long (lN v))]) (by decide) (Nat.le_of_ble_eq_true rfl) rfl (fun X C N Q => ?_)
  have C : tw_C G X cX9_lastEight RX9 := C
  refine tw_iload_n C dX9_lastEight_0 1 rfl ?_
  refine tw_iconst C dX9_lastEight_1 (v := nI 3) (by decide) ?_
  refine tw_iand C dX9_lastEight_2 (v := nI (m % 4)) (nI_andm 2 (by decide)) ?_
  rcases (show m % 4 = 1 ∨ m % 4 = 2 ∨ (m % 4 ≠ 1 ∧ m % 4 ≠ 2) by omega) with q | q | q
  · refine tn_lookup (tgt := 28) (off := 25) C dX9_lastEight_3 (by decide) (by omega) (by simp [Op.lookupswitch.offset, q]) (by decide) ?_
    refine tw_lload_n C dX9_lastEight_28 3 rfl ?_
    exact tw_lreturn C Q dX9_lastEight_29 rfl rfl ⟨by simp [uLe, q], rfl⟩
  · refine tn_lookup (tgt := 30) (off := 27) C dX9_lastEight_3 (by decide) (by omega) (by simp [Op.lookupswitch.offset, q]) (by decide) ?_
    refine tw_ldc2 C dX9_lastEight_30 wd_457 (w := lN 1099478073344) (by decide) ?_
    refine tw_lload_n C dX9_lastEight_33 3 rfl ?_
    refine tw_lor C dX9_lastEight_34 (v := lN (1099478073344 + v)) (by rw [lN_or, orA (hv2 q)]) ?_
    exact tw_lreturn C Q dX9_lastEight_35 rfl rfl ⟨by simp [uLe, q], rfl⟩
  · refine tn_lookup (tgt := 36) (off := 33) C dX9_lastEight_3 (by decide) (by omega) (by show Op.lookupswitch.offset [(1, 25), (2, 27)] 33 _ = 33; rw [Op.lookupswitch.offset_cons, if_neg (by omega), Op.lookupswitch.offset_cons, if_neg (by omega)]; rfl) (by decide) ?_
    refine tw_aload_n C dX9_lastEight_36 0 rfl ?_
    refine tw_getR (q := 5) (k := 0) C dX9_lastEight_37 fc_X9 sh_9 (hG 9 (by decide)) rfl (by decide) wd_65 ?_
    refine tw_iload_n C dX9_lastEight_40 2 rfl ?_
    refine tw_bipush C dX9_lastEight_41 (v := nI 8) (by decide) ?_
    refine tn_icmp_ne C dX9_lastEight_43 (tgt := 50) (by decide) (by omega) (by omega) (fun c1 => ?_) (fun c1 => ?_)
    · exact absurd c1 (by decide)
    refine tw_iconst C dX9_lastEight_46 (v := nI 0) (by decide) ?_
    refine tw_goto C dX9_lastEight_47 (tgt := 51) (by decide) ?_
    refine tw_callV (As := [.int (nI 0)]) (rest := []) C N (c_X3_own hG (S := UF B F pk) hK (w := 0) (by omega)) mm_X3_own wd_458 rfl (hG 5 (by decide)) sh_5 rfl (by decide) rfl (Nat.le_of_ble_eq_true rfl) dX9_lastEight_51 ?_
    rintro _ _ ⟨rfl, rfl⟩
    show TW G X (UF B F pk) [(0, .ref (tw_ad G 9)), (1, .int (nI m)), (2, .int (nI 8)), (3, .long (lN v))] 54 [.long (lN (kO K 0))]
    exact tw_lreturn C Q dX9_lastEight_54 rfl rfl ⟨by simp [uLe, q], rfl⟩
theorem c_X9_firstEight1 {G : tw_G} (hG : tw_cG G) {B : tw_S} {F : Nat → Int32} {pk : List Nat} {K : kN} (hK : KN B K) {m cx : Nat} (hm : m < 2 ^ 31) (hcx : cx < 256) (hF : F 7 = nI cx) : tw_M G yX9_firstEight cX9_firstEight 3 (some .long) 2 42 [.ref (tw_ad G 9), .int (nI m), .int (nI 24)] (UF B F pk) ri_J (fun v S' => v = lN (uFe K m (cx % 16)) ∧ S' = UF B F pk) := by
  refine tw_M.of (L := [(0, .ref (tw_ad G 9)), (1, .int (nI m)), (2, .int (nI 24))]) (by decide) (Nat.le_of_ble_eq_true rfl) rfl (fun X C N Q => ?_)
  have C : tw_C G X cX9_firstEight RX9 := C
  refine tw_iload_n C dX9_firstEight_0 1 rfl ?_
  refine tw_callS (As := [.int (nI m)]) (rest := []) C N (c_X4_usesContext hG (S := UF B F pk) (m := m) (by omega)) mm_X4_usesContext wd_402 rfl (by decide) rfl (Nat.le_of_ble_eq_true rfl) dX9_firstEight_1 ?_
  rintro _ _ ⟨rfl, rfl⟩
  show TW G X (UF B F pk) [(0, .ref (tw_ad G 9)), (1, .int (nI m)), (2, .int (nI 24))] 4 [.int (bI (decide (4 < m ∧ m < 8)))]
  refine tb_if_ne C dX9_firstEight_4 (tgt := 11) (by decide) (fun cu => ?_) (fun cu => ?_)
  · skip
    refine tw_aload_n C dX9_firstEight_11 0 rfl ?_
    refine tw_getR (q := 5) (k := 0) C dX9_firstEight_12 fc_X9 sh_9 (hG 9 (by decide)) rfl (by decide) wd_65 ?_
    refine tw_iload_n C dX9_firstEight_15 2 rfl ?_
    refine tw_bipush C dX9_firstEight_16 (v := nI 8) (by decide) ?_
    refine tn_icmp_ne C dX9_firstEight_18 (tgt := 30) (by decide) (by omega) (by omega) (fun c2 => ?_) (fun c2 => ?_)
    · skip
      refine tw_aload_n C dX9_firstEight_30 0 rfl ?_
      refine tw_getI (v := nI cx) (k := 7) C dX9_firstEight_31 fc_X9 sh_9 (hG 9 (by decide)) rfl (by decide) wd_363 hF ?_
      refine tw_bipush C dX9_firstEight_34 (v := nI 15) (by decide) ?_
      refine tw_iand C dX9_firstEight_36 (v := nI (cx % 16)) (nI_andm 4 (by decide)) ?_
      refine tw_callV (As := [.int (nI (cx % 16))]) (rest := []) C N (c_X3_contextOf hG (S := UF B F pk) hK (i := cx % 16) (by omega)) mm_X3_contextOf wd_448 rfl (hG 5 (by decide)) sh_5 rfl (by decide) rfl (Nat.le_of_ble_eq_true rfl) dX9_firstEight_37 ?_
      rintro _ _ ⟨rfl, rfl⟩
      show TW G X (UF B F pk) [(0, .ref (tw_ad G 9)), (1, .int (nI m)), (2, .int (nI 24))] 40 [.long (lN (if cx % 16 < 16 ∧ kT K (cx % 16) = true then kV K (cx % 16) else 0))]
      exact tw_lreturn C Q dX9_firstEight_40 rfl rfl ⟨by unfold uFe; rw [if_pos (show 4 < m ∧ m < 8 by simpa using cu)], rfl⟩
    · exact absurd c2 (by decide)
  · skip
    refine tw_ldc2 C dX9_firstEight_7 wd_447 (w := lN 18338657682652659712) (by decide) ?_
    exact tw_lreturn C Q dX9_firstEight_10 rfl rfl ⟨by unfold uFe; rw [if_neg (show ¬ (4 < m ∧ m < 8) by simpa using cu)], rfl⟩
theorem c_X9_lastEight1 {G : tw_G} (hG : tw_cG G) {B : tw_S} {F : Nat → Int32} {pk : List Nat} {K : kN} (hK : KN B K) {m v : Nat} (hm : m < 2 ^ 31) (hv : v < 2 ^ 64) (hv2 : m % 4 = 2 → v < 65536) : tw_M G yX9_lastEight cX9_lastEight 5 (some .long) 1 21 [.ref (tw_ad G 9), .int (nI m), .int (nI 24), .long (lN v)] (UF B F pk) ri_J (fun x S' => x = lN (uLe K m 1 v) ∧ S' = UF B F pk) := by
  refine tw_M.of (L := [(0, .ref (tw_ad G 9)), (1, .int (nI m)), (2, .int (nI 24)), (3, .long (lN v))]) (by decide) (Nat.le_of_ble_eq_true rfl) rfl (fun X C N Q => ?_)
  have C : tw_C G X cX9_lastEight RX9 := C
  refine tw_iload_n C dX9_lastEight_0 1 rfl ?_
  refine tw_iconst C dX9_lastEight_1 (v := nI 3) (by decide) ?_
  refine tw_iand C dX9_lastEight_2 (v := nI (m % 4)) (nI_andm 2 (by decide)) ?_
  rcases (show m % 4 = 1 ∨ m % 4 = 2 ∨ (m % 4 ≠ 1 ∧ m % 4 ≠ 2) by omega) with q | q | q
  · refine tn_lookup (tgt := 28) (off := 25) C dX9_lastEight_3 (by decide) (by omega) (by simp [Op.lookupswitch.offset, q]) (by decide) ?_
    refine tw_lload_n C dX9_lastEight_28 3 rfl ?_
    exact tw_lreturn C Q dX9_lastEight_29 rfl rfl ⟨by simp [uLe, q], rfl⟩
  · refine tn_lookup (tgt := 30) (off := 27) C dX9_lastEight_3 (by decide) (by omega) (by simp [Op.lookupswitch.offset, q]) (by decide) ?_
    refine tw_ldc2 C dX9_lastEight_30 wd_457 (w := lN 1099478073344) (by decide) ?_
    refine tw_lload_n C dX9_lastEight_33 3 rfl ?_
    refine tw_lor C dX9_lastEight_34 (v := lN (1099478073344 + v)) (by rw [lN_or, orA (hv2 q)]) ?_
    exact tw_lreturn C Q dX9_lastEight_35 rfl rfl ⟨by simp [uLe, q], rfl⟩
  · refine tn_lookup (tgt := 36) (off := 33) C dX9_lastEight_3 (by decide) (by omega) (by show Op.lookupswitch.offset [(1, 25), (2, 27)] 33 _ = 33; rw [Op.lookupswitch.offset_cons, if_neg (by omega), Op.lookupswitch.offset_cons, if_neg (by omega)]; rfl) (by decide) ?_
    refine tw_aload_n C dX9_lastEight_36 0 rfl ?_
    refine tw_getR (q := 5) (k := 0) C dX9_lastEight_37 fc_X9 sh_9 (hG 9 (by decide)) rfl (by decide) wd_65 ?_
    refine tw_iload_n C dX9_lastEight_40 2 rfl ?_
    refine tw_bipush C dX9_lastEight_41 (v := nI 8) (by decide) ?_
    refine tn_icmp_ne C dX9_lastEight_43 (tgt := 50) (by decide) (by omega) (by omega) (fun c1 => ?_) (fun c1 => ?_)
    · skip
      refine tw_iconst C dX9_lastEight_50 (v := nI 1) (by decide) ?_
      refine tw_callV (As := [.int (nI 1)]) (rest := []) C N (c_X3_own hG (S := UF B F pk) hK (w := 1) (by omega)) mm_X3_own wd_458 rfl (hG 5 (by decide)) sh_5 rfl (by decide) rfl (Nat.le_of_ble_eq_true rfl) dX9_lastEight_51 ?_
      rintro _ _ ⟨rfl, rfl⟩
      show TW G X (UF B F pk) [(0, .ref (tw_ad G 9)), (1, .int (nI m)), (2, .int (nI 24)), (3, .long (lN v))] 54 [.long (lN (kO K 1))]
      exact tw_lreturn C Q dX9_lastEight_54 rfl rfl ⟨by simp [uLe, q], rfl⟩
    · exact absurd c1 (by decide)
theorem uFe_lt {K : kN} (hK : KW K) (m cx : Nat) : uFe K m cx < 2 ^ 64 := by
  unfold uFe
  split
  · split
    · exact hK.1 _
    · decide
  · decide
theorem uLe_lt {K : kN} (hK : KW K) {m w v : Nat} (hv : v < 2 ^ 64) (h2 : m % 4 = 2 → v < 65536) : uLe K m w v < 2 ^ 64 := by
  unfold uLe
  split
  · exact hv
  · split
    · rename_i h; have := h2 h; omega
    · exact hK.2 _
theorem tabN_m2 : ∀ m, m < 12 → m % 4 = 2 → m ≤ 8 → tabN m = 2 := by decide
theorem tabN_m9 : ∀ m, m < 12 → 8 < m → m ≠ 11 → 1 ≤ tabN m ∧ tabN m ≤ 8 := by decide
theorem tabN_m11 : tabN 11 = 1 := rfl
theorem pk_len {A : List Nat} {k : Nat} : (A ++ List.replicate (16 + k) 0).length = A.length + (16 + k) := by simp
theorem ff00 {x : Nat} (h : x < 256) : 65280 ||| x = 65280 + x := by
  have := Nat.two_pow_add_eq_or_of_lt (i := 8) (b := x) h 255
  simp only [Nat.reducePow, Nat.reduceMul] at this
  exact this.symm
theorem be_ff {x : Nat} (h : x < 256) : be (65280 + x) 2 = [255, x] := by
  simp only [be, List.range, List.range.loop, List.map]
  have h1 : (65280 + x) / 2 ^ (8 * (2 - 1 - 0)) % 256 = 255 := by simp only [Nat.reduceSub, Nat.reduceMul, Nat.reducePow]; omega
  have h2 : (65280 + x) / 2 ^ (8 * (2 - 1 - 1)) % 256 = x := by simp only [Nat.reduceSub, Nat.reduceMul, Nat.reducePow]; omega
  rw [h1, h2]
theorem be_ff02 : be 65282 2 = [255, 2] := by decide
theorem rep_split (A : List Nat) (a b : Nat) : A ++ List.replicate (a + b) 0 = (A ++ List.replicate a 0) ++ List.replicate b 0 := by
  rw [List.append_assoc, List.replicate_append_replicate]
theorem set_at (A : List Nat) (k x i : Nat) (h : i = A.length) : (A ++ List.replicate (k + 1) 0).set i x = A ++ [x] ++ List.replicate k 0 := by subst h; exact set_app A k x
theorem setN_at (A B : List Nat) (k n i : Nat) (hi : i = A.length) (h : B.length = n) : setN (A ++ List.replicate (n + k) 0) i B = A ++ B ++ List.replicate k 0 := by subst hi; exact setN_rep A B k n h
/-- the four ways an address comes to its place -/
theorem ad_16 {A : List Nat} {k u v i : Nat} (hi : i = A.length) : setN (setN (A ++ List.replicate (16 + k) 0) i (be u 8)) (i + 8) (be v 8) = A ++ (be u 8 ++ be v 8) ++ List.replicate k 0 := by
  rw [show 16 + k = 8 + (8 + k) by omega, setN_at A (be u 8) (8 + k) 8 i hi (be_len _ _), setN_at (A ++ be u 8) (be v 8) k 8 (i + 8) (by simp [be_len, hi]) (be_len _ _), List.append_assoc A]
theorem ad_11 {A : List Nat} {k x i : Nat} (hi : i = A.length) (hx : x < 256) : (setN (A ++ List.replicate (16 + k) 0) i (be 65282 2)).set (i + 15) (x % 256) = A ++ ([255, 2] ++ List.replicate 13 0 ++ [x]) ++ List.replicate k 0 := by
  rw [show 16 + k = 2 + (14 + k) by omega, setN_at A (be 65282 2) (14 + k) 2 i hi (be_len _ _), be_ff02, show 14 + k = 13 + (k + 1) by omega, rep_split, set_at _ _ _ _ (by simp [hi]), Nat.mod_eq_of_lt hx]
  simp
theorem ad_9 {A : List Nat} {k x v i : Nat} (hi : i = A.length) (hx : x < 256) : setN (setN (A ++ List.replicate (16 + k) 0) i (be (65280 + x) 2)) (i + 8) (be v 8) = A ++ ([255, x] ++ List.replicate 6 0 ++ be v 8) ++ List.replicate k 0 := by
  rw [show 16 + k = 2 + (14 + k) by omega, setN_at A (be (65280 + x) 2) (14 + k) 2 i hi (be_len _ _), be_ff hx, show 14 + k = 6 + (8 + k) by omega, rep_split, setN_at _ (be v 8) k 8 (i + 8) (by simp [hi]) (be_len _ _)]
  simp
theorem ad_0 {A : List Nat} {k : Nat} : A ++ List.replicate (16 + k) 0 = A ++ List.replicate 16 0 ++ List.replicate k 0 := rep_split _ _ _
theorem c_X9_readsAddress0 {G : tw_G} (hG : tw_cG G) {B : tw_S} {F : Nat → Int32} {q : Nat} (hq : tw_isRow q = true) (hq10 : q ≠ 10) {bs : List Nat} (hbs : tw_R B q = bs) (hby : ∀ x ∈ bs, x < 256) (hlen : bs.length ≤ 640) {K : kN} (hK : KN B K) {A : List Nat} {k a m cx : Nat} {x5 x6 x8 : Int32} (hA : 8 = A.length) (ha : a ≤ bs.length) (hm : m < 12) (hcx : cx < 256) (hF : UK F a 0 0 x5 x6 (nI cx) x8) : tw_M G yX9_readsAddress cX9_readsAddress 7 (some .boolean) 3 64 [.ref (tw_ad G 9), .ref (tw_ad G q), .int (nI m), .int (nI 8)] (UF B F (A ++ List.replicate (16 + k) 0)) ri_I (fun v S' => (a + tabN m ≤ bs.length ∧ v = bI true ∧ uGo B S' (a + tabN m) x5 x6 (nI cx) x8 (A ++ uAd K m 0 (cx / 16) bs a ++ List.replicate k 0)) ∨ (bs.length < a + tabN m ∧ v = bI false ∧ uFail B S' (1, bs.length))) := by
  refine tw_M.of (L := [(0, .ref (tw_ad G 9)), (1, .ref (tw_ad G q)), (2, .int (nI m)), (3, .int (nI 8))]) (by decide) (Nat.le_of_ble_eq_true rfl) rfl (fun X C N Q => ?_)
  have C : tw_C G X cX9_readsAddress RX9 := C
  have ht16 := tabN_le m
  have hK5 := hK.2.2.2.2
  have hba := getD_in hby a
  have hn8 := nb_lt hby a 8
  have hn9 := nb_lt hby (a + 8) 8
  simp only [Nat.reducePow] at hn8 hn9
  have hA1 : A.length = 8 := hA.symm
  refine tw_iload_n C dX9_readsAddress_0 2 rfl ?_
  refine tw_callS (As := [.int (nI m)]) (rest := []) C N (c_X4_bytesOf hG (S := UF B F (A ++ List.replicate (16 + k) 0)) (m := m) (by omega)) mm_X4_bytesOf wd_442 rfl (by decide) rfl (Nat.le_of_ble_eq_true rfl) dX9_readsAddress_1 ?_
  rintro _ _ ⟨rfl, rfl⟩
  show TW G X (UF B F (A ++ List.replicate (16 + k) 0)) [(0, .ref (tw_ad G 9)), (1, .ref (tw_ad G q)), (2, .int (nI m)), (3, .int (nI 8))] 4 [.int (nI (tabN m))]
  refine tw_istore (L' := [(4, .int (nI (tabN m))), (0, .ref (tw_ad G 9)), (1, .ref (tw_ad G q)), (2, .int (nI m)), (3, .int (nI 8))]) C N dX9_readsAddress_4 (i := 4) (by decide) rfl ?_
  refine tw_aload_n C dX9_readsAddress_6 1 rfl ?_
  refine tw_aload_n C dX9_readsAddress_7 2 rfl ?_
  refine tw_iload C dX9_readsAddress_8 0 rfl ?_
  refine tw_callV (As := [.ref (tw_ad G q), .int (nI (tabN m))]) (rest := []) C N (c_X9_has hG (B := B) (F := F) (pk := A ++ List.replicate (16 + k) 0) hq hq10 hbs hby hlen (a := a) (m := tabN m) hF.1 (by omega) (by omega)) mm_X9_has wd_376 rfl (hG 9 (by decide)) sh_9 rfl (by decide) rfl (Nat.le_of_ble_eq_true rfl) dX9_readsAddress_10 ?_
  rintro _ _ (⟨hh2, rfl, rfl⟩ | ⟨hh2, rfl, rfl⟩)
  · show TW G X (UF B F (A ++ List.replicate (16 + k) 0)) [(4, .int (nI (tabN m))), (0, .ref (tw_ad G 9)), (1, .ref (tw_ad G q)), (2, .int (nI m)), (3, .int (nI 8))] 13 [.int (bI true)]
    refine tb_if_ne C dX9_readsAddress_13 (tgt := 18) (by decide) (fun c4 => ?_) (fun c4 => ?_)
    · skip
      refine tw_iload C dX9_readsAddress_18 0 rfl ?_
      refine tw_bipush C dX9_readsAddress_20 (v := nI 16) (by decide) ?_
      refine tn_icmp_ne C dX9_readsAddress_22 (tgt := 74) (by decide) (by omega) (by omega) (fun cA => ?_) (fun cA => ?_)
      · have ht8 := tabN_8 cA
        have hnt := Nat.lt_of_lt_of_le (nb_lt hby a (tabN m)) (p256 ht8)
        have hnt2 := Nat.lt_of_lt_of_le (nb_lt hby (a + 1) (tabN m - 1)) (p256 (show tabN m - 1 ≤ 8 by omega))
        simp only [Nat.reducePow] at hnt hnt2
        refine tw_iload_n C dX9_readsAddress_74 3 rfl ?_
        refine tw_bipush C dX9_readsAddress_75 (v := nI 11) (by decide) ?_
        refine tn_icmp_ne C dX9_readsAddress_77 (tgt := 114) (by decide) (by omega) (by omega) (fun cB => ?_) (fun cB => ?_)
        · skip
          refine tw_iload_n C dX9_readsAddress_114 3 rfl ?_
          refine tw_bipush C dX9_readsAddress_115 (v := nI 8) (by decide) ?_
          refine tn_icmp_le C dX9_readsAddress_117 (tgt := 172) (by decide) (by omega) (by omega) (fun cE => ?_) (fun cE => ?_)
          · skip
            refine tw_iload_n C dX9_readsAddress_172 3 rfl ?_
            refine tw_iconst C dX9_readsAddress_173 (v := nI 4) (by decide) ?_
            refine tn_icmp_eq C dX9_readsAddress_174 (tgt := 226) (by decide) (by omega) (by omega) (fun cD => ?_) (fun cD => ?_)
            · skip
              refine tw_aload_n C dX9_readsAddress_226 1 rfl ?_
              refine tw_dup C dX9_readsAddress_227 rfl ?_
              refine tw_getI (v := nI a) (k := 2) C dX9_readsAddress_228 fc_X9 sh_9 (hG 9 (by decide)) rfl (by decide) wd_360 hF.1 ?_
              refine tw_iload C dX9_readsAddress_231 0 rfl ?_
              refine tw_iadd C dX9_readsAddress_233 (v := nI (a + (tabN m))) (nI_add _ _) ?_
              refine tw_putI (k := 2) C dX9_readsAddress_234 fc_X9 sh_9 (hG 9 (by decide)) rfl (by decide) rfl wd_360 rfl rfl ?_
              refine TW.sS (S' := UF B (upd F 2 (nI (a + (tabN m)))) (A ++ List.replicate (16 + k) 0)) (UF_uI _ _ _ _ _) ?_
              refine tw_iconst C dX9_readsAddress_237 (v := nI 1) (by decide) ?_
              exact tw_ireturn C Q dX9_readsAddress_238 rfl rfl rfl (Or.inl ⟨by omega, rfl, upd F 2 (nI (a + (tabN m))), by rw [uAd, if_neg cA, if_neg cB, if_neg (by omega), if_pos cD, ad_0], rfl, hF.2.1, hF.2.2.1, hF.2.2.2.1, hF.2.2.2.2.1, hF.2.2.2.2.2.1, hF.2.2.2.2.2.2⟩)
            · have hnb2 : m % 4 = 2 → nb bs a (tabN m) < 65536 := fun h => by rw [tabN_m2 m hm h (by omega)]; have := nb_lt hby a 2; simpa using this
              have hfe := uFe_lt hK5 m (cx / 16)
              have hle := uLe_lt hK5 (w := 0) (show nb bs a (tabN m) < 2 ^ 64 by omega) hnb2
              refine tw_aload_n C dX9_readsAddress_177 2 rfl ?_
              refine tw_aload_n C dX9_readsAddress_178 1 rfl ?_
              refine tw_getI (v := nI a) (k := 2) C dX9_readsAddress_179 fc_X9 sh_9 (hG 9 (by decide)) rfl (by decide) wd_360 hF.1 ?_
              refine tw_iload C dX9_readsAddress_182 0 rfl ?_
              refine tw_callV (As := [.int (nI a), .int (nI (tabN m))]) (rest := []) C N (e_X7_number hG (S := UF B F (A ++ List.replicate (16 + k) 0)) hq (xs := bs) (UF_R hq10 hbs) (f := a) (i := tabN m) (by omega) (by omega)) mm_X7_number wd_413 rfl (hG _ (tw_row_lt hq).2) (tw_row_sh hq) rfl (by decide) rfl (Nat.le_of_ble_eq_true rfl) dX9_readsAddress_184 ?_
              rintro _ _ ⟨rfl, rfl⟩
              show TW G X (UF B F (A ++ List.replicate (16 + k) 0)) [(4, .int (nI (tabN m))), (0, .ref (tw_ad G 9)), (1, .ref (tw_ad G q)), (2, .int (nI m)), (3, .int (nI 8))] 187 [.long (lN (nb bs a (tabN m)))]
              refine tw_lstore (L' := [(5, .long (lN (nb bs a (tabN m)))), (4, .int (nI (tabN m))), (0, .ref (tw_ad G 9)), (1, .ref (tw_ad G q)), (2, .int (nI m)), (3, .int (nI 8))]) C N dX9_readsAddress_187 (i := 5) (by decide) rfl ?_
              refine tw_aload_n C dX9_readsAddress_189 2 rfl ?_
              refine tw_getR (q := 10) (k := 1) C dX9_readsAddress_190 fc_X9 sh_9 (hG 9 (by decide)) rfl (by decide) wd_64 ?_
              refine tw_iload_n C dX9_readsAddress_193 5 rfl ?_
              refine tw_aload_n C dX9_readsAddress_194 2 rfl ?_
              refine tw_iload_n C dX9_readsAddress_195 4 rfl ?_
              refine tw_iload_n C dX9_readsAddress_196 5 rfl ?_
              refine tw_callV (As := [.int (nI m), .int (nI 8)]) (rest := [.int (nI 8), .ref (tw_ad G 10)]) C N (c_X9_firstEight0 hG (B := B) (F := F) (pk := A ++ List.replicate (16 + k) 0) hK (m := m) (cx := cx) (by omega) (by omega) hF.2.2.2.2.2.1) mm_X9_firstEight wd_443 rfl (hG 9 (by decide)) sh_9 rfl (by decide) rfl (Nat.le_of_ble_eq_true rfl) dX9_readsAddress_197 ?_
              rintro _ _ ⟨rfl, rfl⟩
              show TW G X (UF B F (A ++ List.replicate (16 + k) 0)) [(5, .long (lN (nb bs a (tabN m)))), (4, .int (nI (tabN m))), (0, .ref (tw_ad G 9)), (1, .ref (tw_ad G q)), (2, .int (nI m)), (3, .int (nI 8))] 200 [.long (lN (uFe K m (cx / 16))), .int (nI 8), .ref (tw_ad G 10)]
              refine tw_bipush C dX9_readsAddress_200 (v := nI 8) (by decide) ?_
              refine tw_callV (As := [.int (nI 8), .long (lN (uFe K m (cx / 16))), .int (nI 8)]) (rest := []) C N (e_X7_setNumber hG (S := UF B F (A ++ List.replicate (16 + k) 0)) tw_row10 (xs := A ++ List.replicate (16 + k) 0) rfl (f := 8) (v := uFe K m (cx / 16)) (i := 8) (by omega) (by omega) (by omega)) mm_X7_setNumber wd_415 rfl (hG 10 (by decide)) sh_10 rfl (by decide) rfl (Nat.le_of_ble_eq_true rfl) dX9_readsAddress_202 ?_
              rintro _ _ rfl
              show TW G X (tw_uR (UF B F (A ++ List.replicate (16 + k) 0)) 10 (setN (A ++ List.replicate (16 + k) 0) 8 (be (uFe K m (cx / 16)) 8))) [(5, .long (lN (nb bs a (tabN m)))), (4, .int (nI (tabN m))), (0, .ref (tw_ad G 9)), (1, .ref (tw_ad G q)), (2, .int (nI m)), (3, .int (nI 8))] 205 []
              refine TW.sS (S' := UF B F (setN (A ++ List.replicate (16 + k) 0) 8 (be (uFe K m (cx / 16)) 8))) (UF_uR _ _ _ _) ?_
              refine tw_aload_n C dX9_readsAddress_205 2 rfl ?_
              refine tw_getR (q := 10) (k := 1) C dX9_readsAddress_206 fc_X9 sh_9 (hG 9 (by decide)) rfl (by decide) wd_64 ?_
              refine tw_iload_n C dX9_readsAddress_209 5 rfl ?_
              refine tw_bipush C dX9_readsAddress_210 (v := nI 8) (by decide) ?_
              refine tw_iadd C dX9_readsAddress_212 (v := nI (8 + 8)) (nI_add _ _) ?_
              refine tw_aload_n C dX9_readsAddress_213 2 rfl ?_
              refine tw_iload_n C dX9_readsAddress_214 4 rfl ?_
              refine tw_iload_n C dX9_readsAddress_215 5 rfl ?_
              refine tw_lload C dX9_readsAddress_216 0 rfl ?_
              refine tw_callV (As := [.int (nI m), .int (nI 8), .long (lN (nb bs a (tabN m)))]) (rest := [.int (nI (8 + 8)), .ref (tw_ad G 10)]) C N (c_X9_lastEight0 hG (B := B) (F := F) (pk := setN (A ++ List.replicate (16 + k) 0) 8 (be (uFe K m (cx / 16)) 8)) hK (m := m) (v := nb bs a (tabN m)) (by omega) (by omega) hnb2) mm_X9_lastEight wd_453 rfl (hG 9 (by decide)) sh_9 rfl (by decide) rfl (Nat.le_of_ble_eq_true rfl) dX9_readsAddress_218 ?_
              rintro _ _ ⟨rfl, rfl⟩
              show TW G X (UF B F (setN (A ++ List.replicate (16 + k) 0) 8 (be (uFe K m (cx / 16)) 8))) [(5, .long (lN (nb bs a (tabN m)))), (4, .int (nI (tabN m))), (0, .ref (tw_ad G 9)), (1, .ref (tw_ad G q)), (2, .int (nI m)), (3, .int (nI 8))] 221 [.long (lN (uLe K m 0 (nb bs a (tabN m)))), .int (nI (8 + 8)), .ref (tw_ad G 10)]
              refine tw_bipush C dX9_readsAddress_221 (v := nI 8) (by decide) ?_
              refine tw_callV (As := [.int (nI (8 + 8)), .long (lN (uLe K m 0 (nb bs a (tabN m)))), .int (nI 8)]) (rest := []) C N (e_X7_setNumber hG (S := UF B F (setN (A ++ List.replicate (16 + k) 0) 8 (be (uFe K m (cx / 16)) 8))) tw_row10 (xs := setN (A ++ List.replicate (16 + k) 0) 8 (be (uFe K m (cx / 16)) 8)) rfl (f := 8 + 8) (v := uLe K m 0 (nb bs a (tabN m))) (i := 8) (by omega) (by omega) (by omega)) mm_X7_setNumber wd_415 rfl (hG 10 (by decide)) sh_10 rfl (by decide) rfl (Nat.le_of_ble_eq_true rfl) dX9_readsAddress_223 ?_
              rintro _ _ rfl
              show TW G X (tw_uR (UF B F (setN (A ++ List.replicate (16 + k) 0) 8 (be (uFe K m (cx / 16)) 8))) 10 (setN (setN (A ++ List.replicate (16 + k) 0) 8 (be (uFe K m (cx / 16)) 8)) (8 + 8) (be (uLe K m 0 (nb bs a (tabN m))) 8))) [(5, .long (lN (nb bs a (tabN m)))), (4, .int (nI (tabN m))), (0, .ref (tw_ad G 9)), (1, .ref (tw_ad G q)), (2, .int (nI m)), (3, .int (nI 8))] 226 []
              refine TW.sS (S' := UF B F (setN (setN (A ++ List.replicate (16 + k) 0) 8 (be (uFe K m (cx / 16)) 8)) (8 + 8) (be (uLe K m 0 (nb bs a (tabN m))) 8))) (UF_uR _ _ _ _) ?_
              refine tw_aload_n C dX9_readsAddress_226 2 rfl ?_
              refine tw_dup C dX9_readsAddress_227 rfl ?_
              refine tw_getI (v := nI a) (k := 2) C dX9_readsAddress_228 fc_X9 sh_9 (hG 9 (by decide)) rfl (by decide) wd_360 hF.1 ?_
              refine tw_iload C dX9_readsAddress_231 1 rfl ?_
              refine tw_iadd C dX9_readsAddress_233 (v := nI (a + (tabN m))) (nI_add _ _) ?_
              refine tw_putI (k := 2) C dX9_readsAddress_234 fc_X9 sh_9 (hG 9 (by decide)) rfl (by decide) rfl wd_360 rfl rfl ?_
              refine TW.sS (S' := UF B (upd F 2 (nI (a + (tabN m)))) (setN (setN (A ++ List.replicate (16 + k) 0) 8 (be (uFe K m (cx / 16)) 8)) (8 + 8) (be (uLe K m 0 (nb bs a (tabN m))) 8))) (UF_uI _ _ _ _ _) ?_
              refine tw_iconst C dX9_readsAddress_237 (v := nI 1) (by decide) ?_
              exact tw_ireturn C Q dX9_readsAddress_238 rfl rfl rfl (Or.inl ⟨by omega, rfl, upd F 2 (nI (a + (tabN m))), by rw [uAd, if_neg cA, if_neg cB, if_neg (by omega), if_neg cD, ad_16 hA], rfl, hF.2.1, hF.2.2.1, hF.2.2.2.1, hF.2.2.2.2.1, hF.2.2.2.2.2.1, hF.2.2.2.2.2.2⟩)
          · have h9 := tabN_m9 m hm (by omega) cB
            refine tw_aload_n C dX9_readsAddress_120 1 rfl ?_
            refine tw_getR (q := 10) (k := 1) C dX9_readsAddress_121 fc_X9 sh_9 (hG 9 (by decide)) rfl (by decide) wd_64 ?_
            refine tw_iload_n C dX9_readsAddress_124 4 rfl ?_
            refine tw_ldc2 C dX9_readsAddress_125 wd_441 (w := lN 65280) (by decide) ?_
            refine tw_aload_n C dX9_readsAddress_128 2 rfl ?_
            refine tw_aload_n C dX9_readsAddress_129 1 rfl ?_
            refine tw_getI (v := nI a) (k := 2) C dX9_readsAddress_130 fc_X9 sh_9 (hG 9 (by decide)) rfl (by decide) wd_360 hF.1 ?_
            refine tw_callV (As := [.int (nI a)]) (rest := [.long (lN 65280), .int (nI 8), .ref (tw_ad G 10)]) C N (e_X7_at hG (S := UF B F (A ++ List.replicate (16 + k) 0)) hq (xs := bs) (UF_R hq10 hbs) (i := a) (by omega)) mm_X7_at wd_385 rfl (hG _ (tw_row_lt hq).2) (tw_row_sh hq) rfl (by decide) rfl (Nat.le_of_ble_eq_true rfl) dX9_readsAddress_133 ?_
            rintro _ _ ⟨rfl, rfl⟩
            show TW G X (UF B F (A ++ List.replicate (16 + k) 0)) [(4, .int (nI (tabN m))), (0, .ref (tw_ad G 9)), (1, .ref (tw_ad G q)), (2, .int (nI m)), (3, .int (nI 8))] 136 [.int (nI (bs.getD a 0)), .long (lN 65280), .int (nI 8), .ref (tw_ad G 10)]
            refine tw_i2l C dX9_readsAddress_136 (v := lN (bs.getD a 0)) (nI_i64 (by omega)) ?_
            refine tw_lor C dX9_readsAddress_137 (v := lN (65280 + bs.getD a 0)) (by rw [lN_or, ff00 hba]) ?_
            refine tw_iconst C dX9_readsAddress_138 (v := nI 2) (by decide) ?_
            refine tw_callV (As := [.int (nI 8), .long (lN (65280 + bs.getD a 0)), .int (nI 2)]) (rest := []) C N (e_X7_setNumber hG (S := UF B F (A ++ List.replicate (16 + k) 0)) tw_row10 (xs := A ++ List.replicate (16 + k) 0) rfl (f := 8) (v := 65280 + bs.getD a 0) (i := 2) (by omega) (by omega) (by omega)) mm_X7_setNumber wd_415 rfl (hG 10 (by decide)) sh_10 rfl (by decide) rfl (Nat.le_of_ble_eq_true rfl) dX9_readsAddress_139 ?_
            rintro _ _ rfl
            show TW G X (tw_uR (UF B F (A ++ List.replicate (16 + k) 0)) 10 (setN (A ++ List.replicate (16 + k) 0) 8 (be (65280 + bs.getD a 0) 2))) [(4, .int (nI (tabN m))), (0, .ref (tw_ad G 9)), (1, .ref (tw_ad G q)), (2, .int (nI m)), (3, .int (nI 8))] 142 []
            refine TW.sS (S' := UF B F (setN (A ++ List.replicate (16 + k) 0) 8 (be (65280 + bs.getD a 0) 2))) (UF_uR _ _ _ _) ?_
            refine tw_aload_n C dX9_readsAddress_142 1 rfl ?_
            refine tw_getR (q := 10) (k := 1) C dX9_readsAddress_143 fc_X9 sh_9 (hG 9 (by decide)) rfl (by decide) wd_64 ?_
            refine tw_iload_n C dX9_readsAddress_146 4 rfl ?_
            refine tw_bipush C dX9_readsAddress_147 (v := nI 8) (by decide) ?_
            refine tw_iadd C dX9_readsAddress_149 (v := nI (8 + 8)) (nI_add _ _) ?_
            refine tw_aload_n C dX9_readsAddress_150 2 rfl ?_
            refine tw_aload_n C dX9_readsAddress_151 1 rfl ?_
            refine tw_getI (v := nI a) (k := 2) C dX9_readsAddress_152 fc_X9 sh_9 (hG 9 (by decide)) rfl (by decide) wd_360 hF.1 ?_
            refine tw_iconst C dX9_readsAddress_155 (v := nI 1) (by decide) ?_
            refine tw_iadd C dX9_readsAddress_156 (v := nI (a + 1)) (nI_add _ _) ?_
            refine tw_iload C dX9_readsAddress_157 0 rfl ?_
            refine tw_iconst C dX9_readsAddress_159 (v := nI 1) (by decide) ?_
            refine tw_isub C dX9_readsAddress_160 (v := nI ((tabN m) - 1)) (pk_sub (by omega)) ?_
            refine tw_callV (As := [.int (nI (a + 1)), .int (nI ((tabN m) - 1))]) (rest := [.int (nI (8 + 8)), .ref (tw_ad G 10)]) C N (e_X7_number hG (S := UF B F (setN (A ++ List.replicate (16 + k) 0) 8 (be (65280 + bs.getD a 0) 2))) hq (xs := bs) (UF_R hq10 hbs) (f := a + 1) (i := (tabN m) - 1) (by omega) (by omega)) mm_X7_number wd_413 rfl (hG _ (tw_row_lt hq).2) (tw_row_sh hq) rfl (by decide) rfl (Nat.le_of_ble_eq_true rfl) dX9_readsAddress_161 ?_
            rintro _ _ ⟨rfl, rfl⟩
            show TW G X (UF B F (setN (A ++ List.replicate (16 + k) 0) 8 (be (65280 + bs.getD a 0) 2))) [(4, .int (nI (tabN m))), (0, .ref (tw_ad G 9)), (1, .ref (tw_ad G q)), (2, .int (nI m)), (3, .int (nI 8))] 164 [.long (lN (nb bs (a + 1) ((tabN m) - 1))), .int (nI (8 + 8)), .ref (tw_ad G 10)]
            refine tw_bipush C dX9_readsAddress_164 (v := nI 8) (by decide) ?_
            refine tw_callV (As := [.int (nI (8 + 8)), .long (lN (nb bs (a + 1) ((tabN m) - 1))), .int (nI 8)]) (rest := []) C N (e_X7_setNumber hG (S := UF B F (setN (A ++ List.replicate (16 + k) 0) 8 (be (65280 + bs.getD a 0) 2))) tw_row10 (xs := setN (A ++ List.replicate (16 + k) 0) 8 (be (65280 + bs.getD a 0) 2)) rfl (f := 8 + 8) (v := nb bs (a + 1) ((tabN m) - 1)) (i := 8) (by omega) (by omega) (by omega)) mm_X7_setNumber wd_415 rfl (hG 10 (by decide)) sh_10 rfl (by decide) rfl (Nat.le_of_ble_eq_true rfl) dX9_readsAddress_166 ?_
            rintro _ _ rfl
            show TW G X (tw_uR (UF B F (setN (A ++ List.replicate (16 + k) 0) 8 (be (65280 + bs.getD a 0) 2))) 10 (setN (setN (A ++ List.replicate (16 + k) 0) 8 (be (65280 + bs.getD a 0) 2)) (8 + 8) (be (nb bs (a + 1) ((tabN m) - 1)) 8))) [(4, .int (nI (tabN m))), (0, .ref (tw_ad G 9)), (1, .ref (tw_ad G q)), (2, .int (nI m)), (3, .int (nI 8))] 169 []
            refine TW.sS (S' := UF B F (setN (setN (A ++ List.replicate (16 + k) 0) 8 (be (65280 + bs.getD a 0) 2)) (8 + 8) (be (nb bs (a + 1) ((tabN m) - 1)) 8))) (UF_uR _ _ _ _) ?_
            refine tw_goto C dX9_readsAddress_169 (tgt := 226) (by decide) ?_
            refine tw_aload_n C dX9_readsAddress_226 1 rfl ?_
            refine tw_dup C dX9_readsAddress_227 rfl ?_
            refine tw_getI (v := nI a) (k := 2) C dX9_readsAddress_228 fc_X9 sh_9 (hG 9 (by decide)) rfl (by decide) wd_360 hF.1 ?_
            refine tw_iload C dX9_readsAddress_231 0 rfl ?_
            refine tw_iadd C dX9_readsAddress_233 (v := nI (a + (tabN m))) (nI_add _ _) ?_
            refine tw_putI (k := 2) C dX9_readsAddress_234 fc_X9 sh_9 (hG 9 (by decide)) rfl (by decide) rfl wd_360 rfl rfl ?_
            refine TW.sS (S' := UF B (upd F 2 (nI (a + (tabN m)))) (setN (setN (A ++ List.replicate (16 + k) 0) 8 (be (65280 + bs.getD a 0) 2)) (8 + 8) (be (nb bs (a + 1) ((tabN m) - 1)) 8))) (UF_uI _ _ _ _ _) ?_
            refine tw_iconst C dX9_readsAddress_237 (v := nI 1) (by decide) ?_
            exact tw_ireturn C Q dX9_readsAddress_238 rfl rfl rfl (Or.inl ⟨by omega, rfl, upd F 2 (nI (a + (tabN m))), by rw [uAd, if_neg cA, if_neg cB, if_pos (by omega), ad_9 hA (getD_in hby _)], rfl, hF.2.1, hF.2.2.1, hF.2.2.2.1, hF.2.2.2.2.1, hF.2.2.2.2.2.1, hF.2.2.2.2.2.2⟩)
        · skip
          refine tw_aload_n C dX9_readsAddress_80 1 rfl ?_
          refine tw_getR (q := 10) (k := 1) C dX9_readsAddress_81 fc_X9 sh_9 (hG 9 (by decide)) rfl (by decide) wd_64 ?_
          refine tw_iload_n C dX9_readsAddress_84 4 rfl ?_
          refine tw_ldc2 C dX9_readsAddress_85 wd_440 (w := lN 65282) (by decide) ?_
          refine tw_iconst C dX9_readsAddress_88 (v := nI 2) (by decide) ?_
          refine tw_callV (As := [.int (nI 8), .long (lN 65282), .int (nI 2)]) (rest := []) C N (e_X7_setNumber hG (S := UF B F (A ++ List.replicate (16 + k) 0)) tw_row10 (xs := A ++ List.replicate (16 + k) 0) rfl (f := 8) (v := 65282) (i := 2) (by omega) (by omega) (by omega)) mm_X7_setNumber wd_415 rfl (hG 10 (by decide)) sh_10 rfl (by decide) rfl (Nat.le_of_ble_eq_true rfl) dX9_readsAddress_89 ?_
          rintro _ _ rfl
          show TW G X (tw_uR (UF B F (A ++ List.replicate (16 + k) 0)) 10 (setN (A ++ List.replicate (16 + k) 0) 8 (be 65282 2))) [(4, .int (nI (tabN m))), (0, .ref (tw_ad G 9)), (1, .ref (tw_ad G q)), (2, .int (nI m)), (3, .int (nI 8))] 92 []
          refine TW.sS (S' := UF B F (setN (A ++ List.replicate (16 + k) 0) 8 (be 65282 2))) (UF_uR _ _ _ _) ?_
          refine tw_aload_n C dX9_readsAddress_92 1 rfl ?_
          refine tw_getR (q := 10) (k := 1) C dX9_readsAddress_93 fc_X9 sh_9 (hG 9 (by decide)) rfl (by decide) wd_64 ?_
          refine tw_iload_n C dX9_readsAddress_96 4 rfl ?_
          refine tw_bipush C dX9_readsAddress_97 (v := nI 15) (by decide) ?_
          refine tw_iadd C dX9_readsAddress_99 (v := nI (8 + 15)) (nI_add _ _) ?_
          refine tw_aload_n C dX9_readsAddress_100 2 rfl ?_
          refine tw_aload_n C dX9_readsAddress_101 1 rfl ?_
          refine tw_getI (v := nI a) (k := 2) C dX9_readsAddress_102 fc_X9 sh_9 (hG 9 (by decide)) rfl (by decide) wd_360 hF.1 ?_
          refine tw_callV (As := [.int (nI a)]) (rest := [.int (nI (8 + 15)), .ref (tw_ad G 10)]) C N (e_X7_at hG (S := UF B F (setN (A ++ List.replicate (16 + k) 0) 8 (be 65282 2))) hq (xs := bs) (UF_R hq10 hbs) (i := a) (by omega)) mm_X7_at wd_385 rfl (hG _ (tw_row_lt hq).2) (tw_row_sh hq) rfl (by decide) rfl (Nat.le_of_ble_eq_true rfl) dX9_readsAddress_105 ?_
          rintro _ _ ⟨rfl, rfl⟩
          show TW G X (UF B F (setN (A ++ List.replicate (16 + k) 0) 8 (be 65282 2))) [(4, .int (nI (tabN m))), (0, .ref (tw_ad G 9)), (1, .ref (tw_ad G q)), (2, .int (nI m)), (3, .int (nI 8))] 108 [.int (nI (bs.getD a 0)), .int (nI (8 + 15)), .ref (tw_ad G 10)]
          refine tw_callV (As := [.int (nI (8 + 15)), .int (nI (bs.getD a 0))]) (rest := []) C N (e_X7_set hG (S := UF B F (setN (A ++ List.replicate (16 + k) 0) 8 (be 65282 2))) tw_row10 (xs := setN (A ++ List.replicate (16 + k) 0) 8 (be 65282 2)) rfl (x := bs.getD a 0) (i := 8 + 15) (by omega)) mm_X7_set wd_431 rfl (hG 10 (by decide)) sh_10 rfl (by decide) rfl (Nat.le_of_ble_eq_true rfl) dX9_readsAddress_108 ?_
          rintro _ _ rfl
          show TW G X (tw_uR (UF B F (setN (A ++ List.replicate (16 + k) 0) 8 (be 65282 2))) 10 ((setN (A ++ List.replicate (16 + k) 0) 8 (be 65282 2)).set (8 + 15) ((bs.getD a 0) % 256))) [(4, .int (nI (tabN m))), (0, .ref (tw_ad G 9)), (1, .ref (tw_ad G q)), (2, .int (nI m)), (3, .int (nI 8))] 111 []
          refine TW.sS (S' := UF B F ((setN (A ++ List.replicate (16 + k) 0) 8 (be 65282 2)).set (8 + 15) ((bs.getD a 0) % 256))) (UF_uR _ _ _ _) ?_
          refine tw_goto C dX9_readsAddress_111 (tgt := 226) (by decide) ?_
          refine tw_aload_n C dX9_readsAddress_226 1 rfl ?_
          refine tw_dup C dX9_readsAddress_227 rfl ?_
          refine tw_getI (v := nI a) (k := 2) C dX9_readsAddress_228 fc_X9 sh_9 (hG 9 (by decide)) rfl (by decide) wd_360 hF.1 ?_
          refine tw_iload C dX9_readsAddress_231 0 rfl ?_
          refine tw_iadd C dX9_readsAddress_233 (v := nI (a + (tabN m))) (nI_add _ _) ?_
          refine tw_putI (k := 2) C dX9_readsAddress_234 fc_X9 sh_9 (hG 9 (by decide)) rfl (by decide) rfl wd_360 rfl rfl ?_
          refine TW.sS (S' := UF B (upd F 2 (nI (a + (tabN m)))) ((setN (A ++ List.replicate (16 + k) 0) 8 (be 65282 2)).set (8 + 15) ((bs.getD a 0) % 256))) (UF_uI _ _ _ _ _) ?_
          refine tw_iconst C dX9_readsAddress_237 (v := nI 1) (by decide) ?_
          exact tw_ireturn C Q dX9_readsAddress_238 rfl rfl rfl (Or.inl ⟨by omega, rfl, upd F 2 (nI (a + (tabN m))), by rw [uAd, if_neg cA, if_pos cB, ad_11 hA (getD_in hby _)], rfl, hF.2.1, hF.2.2.1, hF.2.2.2.1, hF.2.2.2.2.1, hF.2.2.2.2.2.1, hF.2.2.2.2.2.2⟩)
      · skip
        refine tw_aload_n C dX9_readsAddress_25 1 rfl ?_
        refine tw_getR (q := 10) (k := 1) C dX9_readsAddress_26 fc_X9 sh_9 (hG 9 (by decide)) rfl (by decide) wd_64 ?_
        refine tw_iload_n C dX9_readsAddress_29 4 rfl ?_
        refine tw_aload_n C dX9_readsAddress_30 2 rfl ?_
        refine tw_aload_n C dX9_readsAddress_31 1 rfl ?_
        refine tw_getI (v := nI a) (k := 2) C dX9_readsAddress_32 fc_X9 sh_9 (hG 9 (by decide)) rfl (by decide) wd_360 hF.1 ?_
        refine tw_bipush C dX9_readsAddress_35 (v := nI 8) (by decide) ?_
        refine tw_callV (As := [.int (nI a), .int (nI 8)]) (rest := [.int (nI 8), .ref (tw_ad G 10)]) C N (e_X7_number hG (S := UF B F (A ++ List.replicate (16 + k) 0)) hq (xs := bs) (UF_R hq10 hbs) (f := a) (i := 8) (by omega) (by omega)) mm_X7_number wd_413 rfl (hG _ (tw_row_lt hq).2) (tw_row_sh hq) rfl (by decide) rfl (Nat.le_of_ble_eq_true rfl) dX9_readsAddress_37 ?_
        rintro _ _ ⟨rfl, rfl⟩
        show TW G X (UF B F (A ++ List.replicate (16 + k) 0)) [(4, .int (nI (tabN m))), (0, .ref (tw_ad G 9)), (1, .ref (tw_ad G q)), (2, .int (nI m)), (3, .int (nI 8))] 40 [.long (lN (nb bs a 8)), .int (nI 8), .ref (tw_ad G 10)]
        refine tw_bipush C dX9_readsAddress_40 (v := nI 8) (by decide) ?_
        refine tw_callV (As := [.int (nI 8), .long (lN (nb bs a 8)), .int (nI 8)]) (rest := []) C N (e_X7_setNumber hG (S := UF B F (A ++ List.replicate (16 + k) 0)) tw_row10 (xs := A ++ List.replicate (16 + k) 0) rfl (f := 8) (v := nb bs a 8) (i := 8) (by omega) (by omega) (by omega)) mm_X7_setNumber wd_415 rfl (hG 10 (by decide)) sh_10 rfl (by decide) rfl (Nat.le_of_ble_eq_true rfl) dX9_readsAddress_42 ?_
        rintro _ _ rfl
        show TW G X (tw_uR (UF B F (A ++ List.replicate (16 + k) 0)) 10 (setN (A ++ List.replicate (16 + k) 0) 8 (be (nb bs a 8) 8))) [(4, .int (nI (tabN m))), (0, .ref (tw_ad G 9)), (1, .ref (tw_ad G q)), (2, .int (nI m)), (3, .int (nI 8))] 45 []
        refine TW.sS (S' := UF B F (setN (A ++ List.replicate (16 + k) 0) 8 (be (nb bs a 8) 8))) (UF_uR _ _ _ _) ?_
        refine tw_aload_n C dX9_readsAddress_45 1 rfl ?_
        refine tw_getR (q := 10) (k := 1) C dX9_readsAddress_46 fc_X9 sh_9 (hG 9 (by decide)) rfl (by decide) wd_64 ?_
        refine tw_iload_n C dX9_readsAddress_49 4 rfl ?_
        refine tw_bipush C dX9_readsAddress_50 (v := nI 8) (by decide) ?_
        refine tw_iadd C dX9_readsAddress_52 (v := nI (8 + 8)) (nI_add _ _) ?_
        refine tw_aload_n C dX9_readsAddress_53 2 rfl ?_
        refine tw_aload_n C dX9_readsAddress_54 1 rfl ?_
        refine tw_getI (v := nI a) (k := 2) C dX9_readsAddress_55 fc_X9 sh_9 (hG 9 (by decide)) rfl (by decide) wd_360 hF.1 ?_
        refine tw_bipush C dX9_readsAddress_58 (v := nI 8) (by decide) ?_
        refine tw_iadd C dX9_readsAddress_60 (v := nI (a + 8)) (nI_add _ _) ?_
        refine tw_bipush C dX9_readsAddress_61 (v := nI 8) (by decide) ?_
        refine tw_callV (As := [.int (nI (a + 8)), .int (nI 8)]) (rest := [.int (nI (8 + 8)), .ref (tw_ad G 10)]) C N (e_X7_number hG (S := UF B F (setN (A ++ List.replicate (16 + k) 0) 8 (be (nb bs a 8) 8))) hq (xs := bs) (UF_R hq10 hbs) (f := a + 8) (i := 8) (by omega) (by omega)) mm_X7_number wd_413 rfl (hG _ (tw_row_lt hq).2) (tw_row_sh hq) rfl (by decide) rfl (Nat.le_of_ble_eq_true rfl) dX9_readsAddress_63 ?_
        rintro _ _ ⟨rfl, rfl⟩
        show TW G X (UF B F (setN (A ++ List.replicate (16 + k) 0) 8 (be (nb bs a 8) 8))) [(4, .int (nI (tabN m))), (0, .ref (tw_ad G 9)), (1, .ref (tw_ad G q)), (2, .int (nI m)), (3, .int (nI 8))] 66 [.long (lN (nb bs (a + 8) 8)), .int (nI (8 + 8)), .ref (tw_ad G 10)]
        refine tw_bipush C dX9_readsAddress_66 (v := nI 8) (by decide) ?_
        refine tw_callV (As := [.int (nI (8 + 8)), .long (lN (nb bs (a + 8) 8)), .int (nI 8)]) (rest := []) C N (e_X7_setNumber hG (S := UF B F (setN (A ++ List.replicate (16 + k) 0) 8 (be (nb bs a 8) 8))) tw_row10 (xs := setN (A ++ List.replicate (16 + k) 0) 8 (be (nb bs a 8) 8)) rfl (f := 8 + 8) (v := nb bs (a + 8) 8) (i := 8) (by omega) (by omega) (by omega)) mm_X7_setNumber wd_415 rfl (hG 10 (by decide)) sh_10 rfl (by decide) rfl (Nat.le_of_ble_eq_true rfl) dX9_readsAddress_68 ?_
        rintro _ _ rfl
        show TW G X (tw_uR (UF B F (setN (A ++ List.replicate (16 + k) 0) 8 (be (nb bs a 8) 8))) 10 (setN (setN (A ++ List.replicate (16 + k) 0) 8 (be (nb bs a 8) 8)) (8 + 8) (be (nb bs (a + 8) 8) 8))) [(4, .int (nI (tabN m))), (0, .ref (tw_ad G 9)), (1, .ref (tw_ad G q)), (2, .int (nI m)), (3, .int (nI 8))] 71 []
        refine TW.sS (S' := UF B F (setN (setN (A ++ List.replicate (16 + k) 0) 8 (be (nb bs a 8) 8)) (8 + 8) (be (nb bs (a + 8) 8) 8))) (UF_uR _ _ _ _) ?_
        refine tw_goto C dX9_readsAddress_71 (tgt := 226) (by decide) ?_
        refine tw_aload_n C dX9_readsAddress_226 1 rfl ?_
        refine tw_dup C dX9_readsAddress_227 rfl ?_
        refine tw_getI (v := nI a) (k := 2) C dX9_readsAddress_228 fc_X9 sh_9 (hG 9 (by decide)) rfl (by decide) wd_360 hF.1 ?_
        refine tw_iload C dX9_readsAddress_231 0 rfl ?_
        refine tw_iadd C dX9_readsAddress_233 (v := nI (a + (tabN m))) (nI_add _ _) ?_
        refine tw_putI (k := 2) C dX9_readsAddress_234 fc_X9 sh_9 (hG 9 (by decide)) rfl (by decide) rfl wd_360 rfl rfl ?_
        refine TW.sS (S' := UF B (upd F 2 (nI (a + (tabN m)))) (setN (setN (A ++ List.replicate (16 + k) 0) 8 (be (nb bs a 8) 8)) (8 + 8) (be (nb bs (a + 8) 8) 8))) (UF_uI _ _ _ _ _) ?_
        refine tw_iconst C dX9_readsAddress_237 (v := nI 1) (by decide) ?_
        exact tw_ireturn C Q dX9_readsAddress_238 rfl rfl rfl (Or.inl ⟨by omega, rfl, upd F 2 (nI (a + (tabN m))), by rw [uAd, if_pos cA, ad_16 hA], rfl, hF.2.1, hF.2.2.1, hF.2.2.2.1, hF.2.2.2.2.1, hF.2.2.2.2.2.1, hF.2.2.2.2.2.2⟩)
    · exact absurd c4 (by decide)
  · show TW G X (UF B (upd (upd F 3 (nI 1)) 4 (nI bs.length)) (A ++ List.replicate (16 + k) 0)) [(4, .int (nI (tabN m))), (0, .ref (tw_ad G 9)), (1, .ref (tw_ad G q)), (2, .int (nI m)), (3, .int (nI 8))] 13 [.int (bI false)]
    refine tb_if_ne C dX9_readsAddress_13 (tgt := 18) (by decide) (fun c21 => ?_) (fun c21 => ?_)
    · exact absurd c21 (by decide)
    refine tw_iconst C dX9_readsAddress_16 (v := nI 0) (by decide) ?_
    exact tw_ireturn C Q dX9_readsAddress_17 rfl rfl rfl (Or.inr ⟨by omega, rfl, Nat.one_ne_zero, _, _, rfl, rfl, rfl⟩)
theorem c_X9_readsAddress1 {G : tw_G} (hG : tw_cG G) {B : tw_S} {F : Nat → Int32} {q : Nat} (hq : tw_isRow q = true) (hq10 : q ≠ 10) {bs : List Nat} (hbs : tw_R B q = bs) (hby : ∀ x ∈ bs, x < 256) (hlen : bs.length ≤ 640) {K : kN} (hK : KN B K) {A : List Nat} {k a m cx : Nat} {x5 x6 x8 : Int32} (hA : 24 = A.length) (ha : a ≤ bs.length) (hm : m < 12) (hcx : cx < 256) (hF : UK F a 0 0 x5 x6 (nI cx) x8) : tw_M G yX9_readsAddress cX9_readsAddress 7 (some .boolean) 3 64 [.ref (tw_ad G 9), .ref (tw_ad G q), .int (nI m), .int (nI 24)] (UF B F (A ++ List.replicate (16 + k) 0)) ri_I (fun v S' => (a + tabN m ≤ bs.length ∧ v = bI true ∧ uGo B S' (a + tabN m) x5 x6 (nI cx) x8 (A ++ uAd K m 1 (cx % 16) bs a ++ List.replicate k 0)) ∨ (bs.length < a + tabN m ∧ v = bI false ∧ uFail B S' (1, bs.length))) := by
  refine tw_M.of (L := [(0, .ref (tw_ad G 9)), (1, .ref (tw_ad G q)), (2, .int (nI m)), (3, .int (nI 24))]) (by decide) (Nat.le_of_ble_eq_true rfl) rfl (fun X C N Q => ?_)
  have C : tw_C G X cX9_readsAddress RX9 := C
  have ht16 := tabN_le m
  have hK5 := hK.2.2.2.2
  have hba := getD_in hby a
  have hn8 := nb_lt hby a 8
  have hn9 := nb_lt hby (a + 8) 8
  simp only [Nat.reducePow] at hn8 hn9
  have hA1 : A.length = 24 := hA.symm
  refine tw_iload_n C dX9_readsAddress_0 2 rfl ?_
  refine tw_callS (As := [.int (nI m)]) (rest := []) C N (c_X4_bytesOf hG (S := UF B F (A ++ List.replicate (16 + k) 0)) (m := m) (by omega)) mm_X4_bytesOf wd_442 rfl (by decide) rfl (Nat.le_of_ble_eq_true rfl) dX9_readsAddress_1 ?_
  rintro _ _ ⟨rfl, rfl⟩
  show TW G X (UF B F (A ++ List.replicate (16 + k) 0)) [(0, .ref (tw_ad G 9)), (1, .ref (tw_ad G q)), (2, .int (nI m)), (3, .int (nI 24))] 4 [.int (nI (tabN m))]
  refine tw_istore (L' := [(4, .int (nI (tabN m))), (0, .ref (tw_ad G 9)), (1, .ref (tw_ad G q)), (2, .int (nI m)), (3, .int (nI 24))]) C N dX9_readsAddress_4 (i := 4) (by decide) rfl ?_
  refine tw_aload_n C dX9_readsAddress_6 1 rfl ?_
  refine tw_aload_n C dX9_readsAddress_7 2 rfl ?_
  refine tw_iload C dX9_readsAddress_8 0 rfl ?_
  refine tw_callV (As := [.ref (tw_ad G q), .int (nI (tabN m))]) (rest := []) C N (c_X9_has hG (B := B) (F := F) (pk := A ++ List.replicate (16 + k) 0) hq hq10 hbs hby hlen (a := a) (m := tabN m) hF.1 (by omega) (by omega)) mm_X9_has wd_376 rfl (hG 9 (by decide)) sh_9 rfl (by decide) rfl (Nat.le_of_ble_eq_true rfl) dX9_readsAddress_10 ?_
  rintro _ _ (⟨hh2, rfl, rfl⟩ | ⟨hh2, rfl, rfl⟩)
  · show TW G X (UF B F (A ++ List.replicate (16 + k) 0)) [(4, .int (nI (tabN m))), (0, .ref (tw_ad G 9)), (1, .ref (tw_ad G q)), (2, .int (nI m)), (3, .int (nI 24))] 13 [.int (bI true)]
    refine tb_if_ne C dX9_readsAddress_13 (tgt := 18) (by decide) (fun c4 => ?_) (fun c4 => ?_)
    · skip
      refine tw_iload C dX9_readsAddress_18 0 rfl ?_
      refine tw_bipush C dX9_readsAddress_20 (v := nI 16) (by decide) ?_
      refine tn_icmp_ne C dX9_readsAddress_22 (tgt := 74) (by decide) (by omega) (by omega) (fun cA => ?_) (fun cA => ?_)
      · have ht8 := tabN_8 cA
        have hnt := Nat.lt_of_lt_of_le (nb_lt hby a (tabN m)) (p256 ht8)
        have hnt2 := Nat.lt_of_lt_of_le (nb_lt hby (a + 1) (tabN m - 1)) (p256 (show tabN m - 1 ≤ 8 by omega))
        simp only [Nat.reducePow] at hnt hnt2
        refine tw_iload_n C dX9_readsAddress_74 3 rfl ?_
        refine tw_bipush C dX9_readsAddress_75 (v := nI 11) (by decide) ?_
        refine tn_icmp_ne C dX9_readsAddress_77 (tgt := 114) (by decide) (by omega) (by omega) (fun cB => ?_) (fun cB => ?_)
        · skip
          refine tw_iload_n C dX9_readsAddress_114 3 rfl ?_
          refine tw_bipush C dX9_readsAddress_115 (v := nI 8) (by decide) ?_
          refine tn_icmp_le C dX9_readsAddress_117 (tgt := 172) (by decide) (by omega) (by omega) (fun cE => ?_) (fun cE => ?_)
          · skip
            refine tw_iload_n C dX9_readsAddress_172 3 rfl ?_
            refine tw_iconst C dX9_readsAddress_173 (v := nI 4) (by decide) ?_
            refine tn_icmp_eq C dX9_readsAddress_174 (tgt := 226) (by decide) (by omega) (by omega) (fun cD => ?_) (fun cD => ?_)
            · skip
              refine tw_aload_n C dX9_readsAddress_226 1 rfl ?_
              refine tw_dup C dX9_readsAddress_227 rfl ?_
              refine tw_getI (v := nI a) (k := 2) C dX9_readsAddress_228 fc_X9 sh_9 (hG 9 (by decide)) rfl (by decide) wd_360 hF.1 ?_
              refine tw_iload C dX9_readsAddress_231 0 rfl ?_
              refine tw_iadd C dX9_readsAddress_233 (v := nI (a + (tabN m))) (nI_add _ _) ?_
              refine tw_putI (k := 2) C dX9_readsAddress_234 fc_X9 sh_9 (hG 9 (by decide)) rfl (by decide) rfl wd_360 rfl rfl ?_
              refine TW.sS (S' := UF B (upd F 2 (nI (a + (tabN m)))) (A ++ List.replicate (16 + k) 0)) (UF_uI _ _ _ _ _) ?_
              refine tw_iconst C dX9_readsAddress_237 (v := nI 1) (by decide) ?_
              exact tw_ireturn C Q dX9_readsAddress_238 rfl rfl rfl (Or.inl ⟨by omega, rfl, upd F 2 (nI (a + (tabN m))), by rw [uAd, if_neg cA, if_neg cB, if_neg (by omega), if_pos cD, ad_0], rfl, hF.2.1, hF.2.2.1, hF.2.2.2.1, hF.2.2.2.2.1, hF.2.2.2.2.2.1, hF.2.2.2.2.2.2⟩)
            · have hnb2 : m % 4 = 2 → nb bs a (tabN m) < 65536 := fun h => by rw [tabN_m2 m hm h (by omega)]; have := nb_lt hby a 2; simpa using this
              have hfe := uFe_lt hK5 m (cx % 16)
              have hle := uLe_lt hK5 (w := 1) (show nb bs a (tabN m) < 2 ^ 64 by omega) hnb2
              refine tw_aload_n C dX9_readsAddress_177 2 rfl ?_
              refine tw_aload_n C dX9_readsAddress_178 1 rfl ?_
              refine tw_getI (v := nI a) (k := 2) C dX9_readsAddress_179 fc_X9 sh_9 (hG 9 (by decide)) rfl (by decide) wd_360 hF.1 ?_
              refine tw_iload C dX9_readsAddress_182 0 rfl ?_
              refine tw_callV (As := [.int (nI a), .int (nI (tabN m))]) (rest := []) C N (e_X7_number hG (S := UF B F (A ++ List.replicate (16 + k) 0)) hq (xs := bs) (UF_R hq10 hbs) (f := a) (i := tabN m) (by omega) (by omega)) mm_X7_number wd_413 rfl (hG _ (tw_row_lt hq).2) (tw_row_sh hq) rfl (by decide) rfl (Nat.le_of_ble_eq_true rfl) dX9_readsAddress_184 ?_
              rintro _ _ ⟨rfl, rfl⟩
              show TW G X (UF B F (A ++ List.replicate (16 + k) 0)) [(4, .int (nI (tabN m))), (0, .ref (tw_ad G 9)), (1, .ref (tw_ad G q)), (2, .int (nI m)), (3, .int (nI 24))] 187 [.long (lN (nb bs a (tabN m)))]
              refine tw_lstore (L' := [(5, .long (lN (nb bs a (tabN m)))), (4, .int (nI (tabN m))), (0, .ref (tw_ad G 9)), (1, .ref (tw_ad G q)), (2, .int (nI m)), (3, .int (nI 24))]) C N dX9_readsAddress_187 (i := 5) (by decide) rfl ?_
              refine tw_aload_n C dX9_readsAddress_189 2 rfl ?_
              refine tw_getR (q := 10) (k := 1) C dX9_readsAddress_190 fc_X9 sh_9 (hG 9 (by decide)) rfl (by decide) wd_64 ?_
              refine tw_iload_n C dX9_readsAddress_193 5 rfl ?_
              refine tw_aload_n C dX9_readsAddress_194 2 rfl ?_
              refine tw_iload_n C dX9_readsAddress_195 4 rfl ?_
              refine tw_iload_n C dX9_readsAddress_196 5 rfl ?_
              refine tw_callV (As := [.int (nI m), .int (nI 24)]) (rest := [.int (nI 24), .ref (tw_ad G 10)]) C N (c_X9_firstEight1 hG (B := B) (F := F) (pk := A ++ List.replicate (16 + k) 0) hK (m := m) (cx := cx) (by omega) (by omega) hF.2.2.2.2.2.1) mm_X9_firstEight wd_443 rfl (hG 9 (by decide)) sh_9 rfl (by decide) rfl (Nat.le_of_ble_eq_true rfl) dX9_readsAddress_197 ?_
              rintro _ _ ⟨rfl, rfl⟩
              show TW G X (UF B F (A ++ List.replicate (16 + k) 0)) [(5, .long (lN (nb bs a (tabN m)))), (4, .int (nI (tabN m))), (0, .ref (tw_ad G 9)), (1, .ref (tw_ad G q)), (2, .int (nI m)), (3, .int (nI 24))] 200 [.long (lN (uFe K m (cx % 16))), .int (nI 24), .ref (tw_ad G 10)]
              refine tw_bipush C dX9_readsAddress_200 (v := nI 8) (by decide) ?_
              refine tw_callV (As := [.int (nI 24), .long (lN (uFe K m (cx % 16))), .int (nI 8)]) (rest := []) C N (e_X7_setNumber hG (S := UF B F (A ++ List.replicate (16 + k) 0)) tw_row10 (xs := A ++ List.replicate (16 + k) 0) rfl (f := 24) (v := uFe K m (cx % 16)) (i := 8) (by omega) (by omega) (by omega)) mm_X7_setNumber wd_415 rfl (hG 10 (by decide)) sh_10 rfl (by decide) rfl (Nat.le_of_ble_eq_true rfl) dX9_readsAddress_202 ?_
              rintro _ _ rfl
              show TW G X (tw_uR (UF B F (A ++ List.replicate (16 + k) 0)) 10 (setN (A ++ List.replicate (16 + k) 0) 24 (be (uFe K m (cx % 16)) 8))) [(5, .long (lN (nb bs a (tabN m)))), (4, .int (nI (tabN m))), (0, .ref (tw_ad G 9)), (1, .ref (tw_ad G q)), (2, .int (nI m)), (3, .int (nI 24))] 205 []
              refine TW.sS (S' := UF B F (setN (A ++ List.replicate (16 + k) 0) 24 (be (uFe K m (cx % 16)) 8))) (UF_uR _ _ _ _) ?_
              refine tw_aload_n C dX9_readsAddress_205 2 rfl ?_
              refine tw_getR (q := 10) (k := 1) C dX9_readsAddress_206 fc_X9 sh_9 (hG 9 (by decide)) rfl (by decide) wd_64 ?_
              refine tw_iload_n C dX9_readsAddress_209 5 rfl ?_
              refine tw_bipush C dX9_readsAddress_210 (v := nI 8) (by decide) ?_
              refine tw_iadd C dX9_readsAddress_212 (v := nI (24 + 8)) (nI_add _ _) ?_
              refine tw_aload_n C dX9_readsAddress_213 2 rfl ?_
              refine tw_iload_n C dX9_readsAddress_214 4 rfl ?_
              refine tw_iload_n C dX9_readsAddress_215 5 rfl ?_
              refine tw_lload C dX9_readsAddress_216 0 rfl ?_
              refine tw_callV (As := [.int (nI m), .int (nI 24), .long (lN (nb bs a (tabN m)))]) (rest := [.int (nI (24 + 8)), .ref (tw_ad G 10)]) C N (c_X9_lastEight1 hG (B := B) (F := F) (pk := setN (A ++ List.replicate (16 + k) 0) 24 (be (uFe K m (cx % 16)) 8)) hK (m := m) (v := nb bs a (tabN m)) (by omega) (by omega) hnb2) mm_X9_lastEight wd_453 rfl (hG 9 (by decide)) sh_9 rfl (by decide) rfl (Nat.le_of_ble_eq_true rfl) dX9_readsAddress_218 ?_
              rintro _ _ ⟨rfl, rfl⟩
              show TW G X (UF B F (setN (A ++ List.replicate (16 + k) 0) 24 (be (uFe K m (cx % 16)) 8))) [(5, .long (lN (nb bs a (tabN m)))), (4, .int (nI (tabN m))), (0, .ref (tw_ad G 9)), (1, .ref (tw_ad G q)), (2, .int (nI m)), (3, .int (nI 24))] 221 [.long (lN (uLe K m 1 (nb bs a (tabN m)))), .int (nI (24 + 8)), .ref (tw_ad G 10)]
              refine tw_bipush C dX9_readsAddress_221 (v := nI 8) (by decide) ?_
              refine tw_callV (As := [.int (nI (24 + 8)), .long (lN (uLe K m 1 (nb bs a (tabN m)))), .int (nI 8)]) (rest := []) C N (e_X7_setNumber hG (S := UF B F (setN (A ++ List.replicate (16 + k) 0) 24 (be (uFe K m (cx % 16)) 8))) tw_row10 (xs := setN (A ++ List.replicate (16 + k) 0) 24 (be (uFe K m (cx % 16)) 8)) rfl (f := 24 + 8) (v := uLe K m 1 (nb bs a (tabN m))) (i := 8) (by omega) (by omega) (by omega)) mm_X7_setNumber wd_415 rfl (hG 10 (by decide)) sh_10 rfl (by decide) rfl (Nat.le_of_ble_eq_true rfl) dX9_readsAddress_223 ?_
              rintro _ _ rfl
              show TW G X (tw_uR (UF B F (setN (A ++ List.replicate (16 + k) 0) 24 (be (uFe K m (cx % 16)) 8))) 10 (setN (setN (A ++ List.replicate (16 + k) 0) 24 (be (uFe K m (cx % 16)) 8)) (24 + 8) (be (uLe K m 1 (nb bs a (tabN m))) 8))) [(5, .long (lN (nb bs a (tabN m)))), (4, .int (nI (tabN m))), (0, .ref (tw_ad G 9)), (1, .ref (tw_ad G q)), (2, .int (nI m)), (3, .int (nI 24))] 226 []
              refine TW.sS (S' := UF B F (setN (setN (A ++ List.replicate (16 + k) 0) 24 (be (uFe K m (cx % 16)) 8)) (24 + 8) (be (uLe K m 1 (nb bs a (tabN m))) 8))) (UF_uR _ _ _ _) ?_
              refine tw_aload_n C dX9_readsAddress_226 2 rfl ?_
              refine tw_dup C dX9_readsAddress_227 rfl ?_
              refine tw_getI (v := nI a) (k := 2) C dX9_readsAddress_228 fc_X9 sh_9 (hG 9 (by decide)) rfl (by decide) wd_360 hF.1 ?_
              refine tw_iload C dX9_readsAddress_231 1 rfl ?_
              refine tw_iadd C dX9_readsAddress_233 (v := nI (a + (tabN m))) (nI_add _ _) ?_
              refine tw_putI (k := 2) C dX9_readsAddress_234 fc_X9 sh_9 (hG 9 (by decide)) rfl (by decide) rfl wd_360 rfl rfl ?_
              refine TW.sS (S' := UF B (upd F 2 (nI (a + (tabN m)))) (setN (setN (A ++ List.replicate (16 + k) 0) 24 (be (uFe K m (cx % 16)) 8)) (24 + 8) (be (uLe K m 1 (nb bs a (tabN m))) 8))) (UF_uI _ _ _ _ _) ?_
              refine tw_iconst C dX9_readsAddress_237 (v := nI 1) (by decide) ?_
              exact tw_ireturn C Q dX9_readsAddress_238 rfl rfl rfl (Or.inl ⟨by omega, rfl, upd F 2 (nI (a + (tabN m))), by rw [uAd, if_neg cA, if_neg cB, if_neg (by omega), if_neg cD, ad_16 hA], rfl, hF.2.1, hF.2.2.1, hF.2.2.2.1, hF.2.2.2.2.1, hF.2.2.2.2.2.1, hF.2.2.2.2.2.2⟩)
          · have h9 := tabN_m9 m hm (by omega) cB
            refine tw_aload_n C dX9_readsAddress_120 1 rfl ?_
            refine tw_getR (q := 10) (k := 1) C dX9_readsAddress_121 fc_X9 sh_9 (hG 9 (by decide)) rfl (by decide) wd_64 ?_
            refine tw_iload_n C dX9_readsAddress_124 4 rfl ?_
            refine tw_ldc2 C dX9_readsAddress_125 wd_441 (w := lN 65280) (by decide) ?_
            refine tw_aload_n C dX9_readsAddress_128 2 rfl ?_
            refine tw_aload_n C dX9_readsAddress_129 1 rfl ?_
            refine tw_getI (v := nI a) (k := 2) C dX9_readsAddress_130 fc_X9 sh_9 (hG 9 (by decide)) rfl (by decide) wd_360 hF.1 ?_
            refine tw_callV (As := [.int (nI a)]) (rest := [.long (lN 65280), .int (nI 24), .ref (tw_ad G 10)]) C N (e_X7_at hG (S := UF B F (A ++ List.replicate (16 + k) 0)) hq (xs := bs) (UF_R hq10 hbs) (i := a) (by omega)) mm_X7_at wd_385 rfl (hG _ (tw_row_lt hq).2) (tw_row_sh hq) rfl (by decide) rfl (Nat.le_of_ble_eq_true rfl) dX9_readsAddress_133 ?_
            rintro _ _ ⟨rfl, rfl⟩
            show TW G X (UF B F (A ++ List.replicate (16 + k) 0)) [(4, .int (nI (tabN m))), (0, .ref (tw_ad G 9)), (1, .ref (tw_ad G q)), (2, .int (nI m)), (3, .int (nI 24))] 136 [.int (nI (bs.getD a 0)), .long (lN 65280), .int (nI 24), .ref (tw_ad G 10)]
            refine tw_i2l C dX9_readsAddress_136 (v := lN (bs.getD a 0)) (nI_i64 (by omega)) ?_
            refine tw_lor C dX9_readsAddress_137 (v := lN (65280 + bs.getD a 0)) (by rw [lN_or, ff00 hba]) ?_
            refine tw_iconst C dX9_readsAddress_138 (v := nI 2) (by decide) ?_
            refine tw_callV (As := [.int (nI 24), .long (lN (65280 + bs.getD a 0)), .int (nI 2)]) (rest := []) C N (e_X7_setNumber hG (S := UF B F (A ++ List.replicate (16 + k) 0)) tw_row10 (xs := A ++ List.replicate (16 + k) 0) rfl (f := 24) (v := 65280 + bs.getD a 0) (i := 2) (by omega) (by omega) (by omega)) mm_X7_setNumber wd_415 rfl (hG 10 (by decide)) sh_10 rfl (by decide) rfl (Nat.le_of_ble_eq_true rfl) dX9_readsAddress_139 ?_
            rintro _ _ rfl
            show TW G X (tw_uR (UF B F (A ++ List.replicate (16 + k) 0)) 10 (setN (A ++ List.replicate (16 + k) 0) 24 (be (65280 + bs.getD a 0) 2))) [(4, .int (nI (tabN m))), (0, .ref (tw_ad G 9)), (1, .ref (tw_ad G q)), (2, .int (nI m)), (3, .int (nI 24))] 142 []
            refine TW.sS (S' := UF B F (setN (A ++ List.replicate (16 + k) 0) 24 (be (65280 + bs.getD a 0) 2))) (UF_uR _ _ _ _) ?_
            refine tw_aload_n C dX9_readsAddress_142 1 rfl ?_
            refine tw_getR (q := 10) (k := 1) C dX9_readsAddress_143 fc_X9 sh_9 (hG 9 (by decide)) rfl (by decide) wd_64 ?_
            refine tw_iload_n C dX9_readsAddress_146 4 rfl ?_
            refine tw_bipush C dX9_readsAddress_147 (v := nI 8) (by decide) ?_
            refine tw_iadd C dX9_readsAddress_149 (v := nI (24 + 8)) (nI_add _ _) ?_
            refine tw_aload_n C dX9_readsAddress_150 2 rfl ?_
            refine tw_aload_n C dX9_readsAddress_151 1 rfl ?_
            refine tw_getI (v := nI a) (k := 2) C dX9_readsAddress_152 fc_X9 sh_9 (hG 9 (by decide)) rfl (by decide) wd_360 hF.1 ?_
            refine tw_iconst C dX9_readsAddress_155 (v := nI 1) (by decide) ?_
            refine tw_iadd C dX9_readsAddress_156 (v := nI (a + 1)) (nI_add _ _) ?_
            refine tw_iload C dX9_readsAddress_157 0 rfl ?_
            refine tw_iconst C dX9_readsAddress_159 (v := nI 1) (by decide) ?_
            refine tw_isub C dX9_readsAddress_160 (v := nI ((tabN m) - 1)) (pk_sub (by omega)) ?_
            refine tw_callV (As := [.int (nI (a + 1)), .int (nI ((tabN m) - 1))]) (rest := [.int (nI (24 + 8)), .ref (tw_ad G 10)]) C N (e_X7_number hG (S := UF B F (setN (A ++ List.replicate (16 + k) 0) 24 (be (65280 + bs.getD a 0) 2))) hq (xs := bs) (UF_R hq10 hbs) (f := a + 1) (i := (tabN m) - 1) (by omega) (by omega)) mm_X7_number wd_413 rfl (hG _ (tw_row_lt hq).2) (tw_row_sh hq) rfl (by decide) rfl (Nat.le_of_ble_eq_true rfl) dX9_readsAddress_161 ?_
            rintro _ _ ⟨rfl, rfl⟩
            show TW G X (UF B F (setN (A ++ List.replicate (16 + k) 0) 24 (be (65280 + bs.getD a 0) 2))) [(4, .int (nI (tabN m))), (0, .ref (tw_ad G 9)), (1, .ref (tw_ad G q)), (2, .int (nI m)), (3, .int (nI 24))] 164 [.long (lN (nb bs (a + 1) ((tabN m) - 1))), .int (nI (24 + 8)), .ref (tw_ad G 10)]
            refine tw_bipush C dX9_readsAddress_164 (v := nI 8) (by decide) ?_
            refine tw_callV (As := [.int (nI (24 + 8)), .long (lN (nb bs (a + 1) ((tabN m) - 1))), .int (nI 8)]) (rest := []) C N (e_X7_setNumber hG (S := UF B F (setN (A ++ List.replicate (16 + k) 0) 24 (be (65280 + bs.getD a 0) 2))) tw_row10 (xs := setN (A ++ List.replicate (16 + k) 0) 24 (be (65280 + bs.getD a 0) 2)) rfl (f := 24 + 8) (v := nb bs (a + 1) ((tabN m) - 1)) (i := 8) (by omega) (by omega) (by omega)) mm_X7_setNumber wd_415 rfl (hG 10 (by decide)) sh_10 rfl (by decide) rfl (Nat.le_of_ble_eq_true rfl) dX9_readsAddress_166 ?_
            rintro _ _ rfl
            show TW G X (tw_uR (UF B F (setN (A ++ List.replicate (16 + k) 0) 24 (be (65280 + bs.getD a 0) 2))) 10 (setN (setN (A ++ List.replicate (16 + k) 0) 24 (be (65280 + bs.getD a 0) 2)) (24 + 8) (be (nb bs (a + 1) ((tabN m) - 1)) 8))) [(4, .int (nI (tabN m))), (0, .ref (tw_ad G 9)), (1, .ref (tw_ad G q)), (2, .int (nI m)), (3, .int (nI 24))] 169 []
            refine TW.sS (S' := UF B F (setN (setN (A ++ List.replicate (16 + k) 0) 24 (be (65280 + bs.getD a 0) 2)) (24 + 8) (be (nb bs (a + 1) ((tabN m) - 1)) 8))) (UF_uR _ _ _ _) ?_
            refine tw_goto C dX9_readsAddress_169 (tgt := 226) (by decide) ?_
            refine tw_aload_n C dX9_readsAddress_226 1 rfl ?_
            refine tw_dup C dX9_readsAddress_227 rfl ?_
            refine tw_getI (v := nI a) (k := 2) C dX9_readsAddress_228 fc_X9 sh_9 (hG 9 (by decide)) rfl (by decide) wd_360 hF.1 ?_
            refine tw_iload C dX9_readsAddress_231 0 rfl ?_
            refine tw_iadd C dX9_readsAddress_233 (v := nI (a + (tabN m))) (nI_add _ _) ?_
            refine tw_putI (k := 2) C dX9_readsAddress_234 fc_X9 sh_9 (hG 9 (by decide)) rfl (by decide) rfl wd_360 rfl rfl ?_
            refine TW.sS (S' := UF B (upd F 2 (nI (a + (tabN m)))) (setN (setN (A ++ List.replicate (16 + k) 0) 24 (be (65280 + bs.getD a 0) 2)) (24 + 8) (be (nb bs (a + 1) ((tabN m) - 1)) 8))) (UF_uI _ _ _ _ _) ?_
            refine tw_iconst C dX9_readsAddress_237 (v := nI 1) (by decide) ?_
            exact tw_ireturn C Q dX9_readsAddress_238 rfl rfl rfl (Or.inl ⟨by omega, rfl, upd F 2 (nI (a + (tabN m))), by rw [uAd, if_neg cA, if_neg cB, if_pos (by omega), ad_9 hA (getD_in hby _)], rfl, hF.2.1, hF.2.2.1, hF.2.2.2.1, hF.2.2.2.2.1, hF.2.2.2.2.2.1, hF.2.2.2.2.2.2⟩)
        · skip
          refine tw_aload_n C dX9_readsAddress_80 1 rfl ?_
          refine tw_getR (q := 10) (k := 1) C dX9_readsAddress_81 fc_X9 sh_9 (hG 9 (by decide)) rfl (by decide) wd_64 ?_
          refine tw_iload_n C dX9_readsAddress_84 4 rfl ?_
          refine tw_ldc2 C dX9_readsAddress_85 wd_440 (w := lN 65282) (by decide) ?_
          refine tw_iconst C dX9_readsAddress_88 (v := nI 2) (by decide) ?_
          refine tw_callV (As := [.int (nI 24), .long (lN 65282), .int (nI 2)]) (rest := []) C N (e_X7_setNumber hG (S := UF B F (A ++ List.replicate (16 + k) 0)) tw_row10 (xs := A ++ List.replicate (16 + k) 0) rfl (f := 24) (v := 65282) (i := 2) (by omega) (by omega) (by omega)) mm_X7_setNumber wd_415 rfl (hG 10 (by decide)) sh_10 rfl (by decide) rfl (Nat.le_of_ble_eq_true rfl) dX9_readsAddress_89 ?_
          rintro _ _ rfl
          show TW G X (tw_uR (UF B F (A ++ List.replicate (16 + k) 0)) 10 (setN (A ++ List.replicate (16 + k) 0) 24 (be 65282 2))) [(4, .int (nI (tabN m))), (0, .ref (tw_ad G 9)), (1, .ref (tw_ad G q)), (2, .int (nI m)), (3, .int (nI 24))] 92 []
          refine TW.sS (S' := UF B F (setN (A ++ List.replicate (16 + k) 0) 24 (be 65282 2))) (UF_uR _ _ _ _) ?_
          refine tw_aload_n C dX9_readsAddress_92 1 rfl ?_
          refine tw_getR (q := 10) (k := 1) C dX9_readsAddress_93 fc_X9 sh_9 (hG 9 (by decide)) rfl (by decide) wd_64 ?_
          refine tw_iload_n C dX9_readsAddress_96 4 rfl ?_
          refine tw_bipush C dX9_readsAddress_97 (v := nI 15) (by decide) ?_
          refine tw_iadd C dX9_readsAddress_99 (v := nI (24 + 15)) (nI_add _ _) ?_
          refine tw_aload_n C dX9_readsAddress_100 2 rfl ?_
          refine tw_aload_n C dX9_readsAddress_101 1 rfl ?_
          refine tw_getI (v := nI a) (k := 2) C dX9_readsAddress_102 fc_X9 sh_9 (hG 9 (by decide)) rfl (by decide) wd_360 hF.1 ?_
          refine tw_callV (As := [.int (nI a)]) (rest := [.int (nI (24 + 15)), .ref (tw_ad G 10)]) C N (e_X7_at hG (S := UF B F (setN (A ++ List.replicate (16 + k) 0) 24 (be 65282 2))) hq (xs := bs) (UF_R hq10 hbs) (i := a) (by omega)) mm_X7_at wd_385 rfl (hG _ (tw_row_lt hq).2) (tw_row_sh hq) rfl (by decide) rfl (Nat.le_of_ble_eq_true rfl) dX9_readsAddress_105 ?_
          rintro _ _ ⟨rfl, rfl⟩
          show TW G X (UF B F (setN (A ++ List.replicate (16 + k) 0) 24 (be 65282 2))) [(4, .int (nI (tabN m))), (0, .ref (tw_ad G 9)), (1, .ref (tw_ad G q)), (2, .int (nI m)), (3, .int (nI 24))] 108 [.int (nI (bs.getD a 0)), .int (nI (24 + 15)), .ref (tw_ad G 10)]
          refine tw_callV (As := [.int (nI (24 + 15)), .int (nI (bs.getD a 0))]) (rest := []) C N (e_X7_set hG (S := UF B F (setN (A ++ List.replicate (16 + k) 0) 24 (be 65282 2))) tw_row10 (xs := setN (A ++ List.replicate (16 + k) 0) 24 (be 65282 2)) rfl (x := bs.getD a 0) (i := 24 + 15) (by omega)) mm_X7_set wd_431 rfl (hG 10 (by decide)) sh_10 rfl (by decide) rfl (Nat.le_of_ble_eq_true rfl) dX9_readsAddress_108 ?_
          rintro _ _ rfl
          show TW G X (tw_uR (UF B F (setN (A ++ List.replicate (16 + k) 0) 24 (be 65282 2))) 10 ((setN (A ++ List.replicate (16 + k) 0) 24 (be 65282 2)).set (24 + 15) ((bs.getD a 0) % 256))) [(4, .int (nI (tabN m))), (0, .ref (tw_ad G 9)), (1, .ref (tw_ad G q)), (2, .int (nI m)), (3, .int (nI 24))] 111 []
          refine TW.sS (S' := UF B F ((setN (A ++ List.replicate (16 + k) 0) 24 (be 65282 2)).set (24 + 15) ((bs.getD a 0) % 256))) (UF_uR _ _ _ _) ?_
          refine tw_goto C dX9_readsAddress_111 (tgt := 226) (by decide) ?_
          refine tw_aload_n C dX9_readsAddress_226 1 rfl ?_
          refine tw_dup C dX9_readsAddress_227 rfl ?_
          refine tw_getI (v := nI a) (k := 2) C dX9_readsAddress_228 fc_X9 sh_9 (hG 9 (by decide)) rfl (by decide) wd_360 hF.1 ?_
          refine tw_iload C dX9_readsAddress_231 0 rfl ?_
          refine tw_iadd C dX9_readsAddress_233 (v := nI (a + (tabN m))) (nI_add _ _) ?_
          refine tw_putI (k := 2) C dX9_readsAddress_234 fc_X9 sh_9 (hG 9 (by decide)) rfl (by decide) rfl wd_360 rfl rfl ?_
          refine TW.sS (S' := UF B (upd F 2 (nI (a + (tabN m)))) ((setN (A ++ List.replicate (16 + k) 0) 24 (be 65282 2)).set (24 + 15) ((bs.getD a 0) % 256))) (UF_uI _ _ _ _ _) ?_
          refine tw_iconst C dX9_readsAddress_237 (v := nI 1) (by decide) ?_
          exact tw_ireturn C Q dX9_readsAddress_238 rfl rfl rfl (Or.inl ⟨by omega, rfl, upd F 2 (nI (a + (tabN m))), by rw [uAd, if_neg cA, if_pos cB, ad_11 hA (getD_in hby _)], rfl, hF.2.1, hF.2.2.1, hF.2.2.2.1, hF.2.2.2.2.1, hF.2.2.2.2.2.1, hF.2.2.2.2.2.2⟩)
      · skip
        refine tw_aload_n C dX9_readsAddress_25 1 rfl ?_
        refine tw_getR (q := 10) (k := 1) C dX9_readsAddress_26 fc_X9 sh_9 (hG 9 (by decide)) rfl (by decide) wd_64 ?_
        refine tw_iload_n C dX9_readsAddress_29 4 rfl ?_
        refine tw_aload_n C dX9_readsAddress_30 2 rfl ?_
        refine tw_aload_n C dX9_readsAddress_31 1 rfl ?_
        refine tw_getI (v := nI a) (k := 2) C dX9_readsAddress_32 fc_X9 sh_9 (hG 9 (by decide)) rfl (by decide) wd_360 hF.1 ?_
        refine tw_bipush C dX9_readsAddress_35 (v := nI 8) (by decide) ?_
        refine tw_callV (As := [.int (nI a), .int (nI 8)]) (rest := [.int (nI 24), .ref (tw_ad G 10)]) C N (e_X7_number hG (S := UF B F (A ++ List.replicate (16 + k) 0)) hq (xs := bs) (UF_R hq10 hbs) (f := a) (i := 8) (by omega) (by omega)) mm_X7_number wd_413 rfl (hG _ (tw_row_lt hq).2) (tw_row_sh hq) rfl (by decide) rfl (Nat.le_of_ble_eq_true rfl) dX9_readsAddress_37 ?_
        rintro _ _ ⟨rfl, rfl⟩
        show TW G X (UF B F (A ++ List.replicate (16 + k) 0)) [(4, .int (nI (tabN m))), (0, .ref (tw_ad G 9)), (1, .ref (tw_ad G q)), (2, .int (nI m)), (3, .int (nI 24))] 40 [.long (lN (nb bs a 8)), .int (nI 24), .ref (tw_ad G 10)]
        refine tw_bipush C dX9_readsAddress_40 (v := nI 8) (by decide) ?_
        refine tw_callV (As := [.int (nI 24), .long (lN (nb bs a 8)), .int (nI 8)]) (rest := []) C N (e_X7_setNumber hG (S := UF B F (A ++ List.replicate (16 + k) 0)) tw_row10 (xs := A ++ List.replicate (16 + k) 0) rfl (f := 24) (v := nb bs a 8) (i := 8) (by omega) (by omega) (by omega)) mm_X7_setNumber wd_415 rfl (hG 10 (by decide)) sh_10 rfl (by decide) rfl (Nat.le_of_ble_eq_true rfl) dX9_readsAddress_42 ?_
        rintro _ _ rfl
        show TW G X (tw_uR (UF B F (A ++ List.replicate (16 + k) 0)) 10 (setN (A ++ List.replicate (16 + k) 0) 24 (be (nb bs a 8) 8))) [(4, .int (nI (tabN m))), (0, .ref (tw_ad G 9)), (1, .ref (tw_ad G q)), (2, .int (nI m)), (3, .int (nI 24))] 45 []
        refine TW.sS (S' := UF B F (setN (A ++ List.replicate (16 + k) 0) 24 (be (nb bs a 8) 8))) (UF_uR _ _ _ _) ?_
        refine tw_aload_n C dX9_readsAddress_45 1 rfl ?_
        refine tw_getR (q := 10) (k := 1) C dX9_readsAddress_46 fc_X9 sh_9 (hG 9 (by decide)) rfl (by decide) wd_64 ?_
        refine tw_iload_n C dX9_readsAddress_49 4 rfl ?_
        refine tw_bipush C dX9_readsAddress_50 (v := nI 8) (by decide) ?_
        refine tw_iadd C dX9_readsAddress_52 (v := nI (24 + 8)) (nI_add _ _) ?_
        refine tw_aload_n C dX9_readsAddress_53 2 rfl ?_
        refine tw_aload_n C dX9_readsAddress_54 1 rfl ?_
        refine tw_getI (v := nI a) (k := 2) C dX9_readsAddress_55 fc_X9 sh_9 (hG 9 (by decide)) rfl (by decide) wd_360 hF.1 ?_
        refine tw_bipush C dX9_readsAddress_58 (v := nI 8) (by decide) ?_
        refine tw_iadd C dX9_readsAddress_60 (v := nI (a + 8)) (nI_add _ _) ?_
        refine tw_bipush C dX9_readsAddress_61 (v := nI 8) (by decide) ?_
        refine tw_callV (As := [.int (nI (a + 8)), .int (nI 8)]) (rest := [.int (nI (24 + 8)), .ref (tw_ad G 10)]) C N (e_X7_number hG (S := UF B F (setN (A ++ List.replicate (16 + k) 0) 24 (be (nb bs a 8) 8))) hq (xs := bs) (UF_R hq10 hbs) (f := a + 8) (i := 8) (by omega) (by omega)) mm_X7_number wd_413 rfl (hG _ (tw_row_lt hq).2) (tw_row_sh hq) rfl (by decide) rfl (Nat.le_of_ble_eq_true rfl) dX9_readsAddress_63 ?_
        rintro _ _ ⟨rfl, rfl⟩
        show TW G X (UF B F (setN (A ++ List.replicate (16 + k) 0) 24 (be (nb bs a 8) 8))) [(4, .int (nI (tabN m))), (0, .ref (tw_ad G 9)), (1, .ref (tw_ad G q)), (2, .int (nI m)), (3, .int (nI 24))] 66 [.long (lN (nb bs (a + 8) 8)), .int (nI (24 + 8)), .ref (tw_ad G 10)]
        refine tw_bipush C dX9_readsAddress_66 (v := nI 8) (by decide) ?_
        refine tw_callV (As := [.int (nI (24 + 8)), .long (lN (nb bs (a + 8) 8)), .int (nI 8)]) (rest := []) C N (e_X7_setNumber hG (S := UF B F (setN (A ++ List.replicate (16 + k) 0) 24 (be (nb bs a 8) 8))) tw_row10 (xs := setN (A ++ List.replicate (16 + k) 0) 24 (be (nb bs a 8) 8)) rfl (f := 24 + 8) (v := nb bs (a + 8) 8) (i := 8) (by omega) (by omega) (by omega)) mm_X7_setNumber wd_415 rfl (hG 10 (by decide)) sh_10 rfl (by decide) rfl (Nat.le_of_ble_eq_true rfl) dX9_readsAddress_68 ?_
        rintro _ _ rfl
        show TW G X (tw_uR (UF B F (setN (A ++ List.replicate (16 + k) 0) 24 (be (nb bs a 8) 8))) 10 (setN (setN (A ++ List.replicate (16 + k) 0) 24 (be (nb bs a 8) 8)) (24 + 8) (be (nb bs (a + 8) 8) 8))) [(4, .int (nI (tabN m))), (0, .ref (tw_ad G 9)), (1, .ref (tw_ad G q)), (2, .int (nI m)), (3, .int (nI 24))] 71 []
        refine TW.sS (S' := UF B F (setN (setN (A ++ List.replicate (16 + k) 0) 24 (be (nb bs a 8) 8)) (24 + 8) (be (nb bs (a + 8) 8) 8))) (UF_uR _ _ _ _) ?_
        refine tw_goto C dX9_readsAddress_71 (tgt := 226) (by decide) ?_
        refine tw_aload_n C dX9_readsAddress_226 1 rfl ?_
        refine tw_dup C dX9_readsAddress_227 rfl ?_
        refine tw_getI (v := nI a) (k := 2) C dX9_readsAddress_228 fc_X9 sh_9 (hG 9 (by decide)) rfl (by decide) wd_360 hF.1 ?_
        refine tw_iload C dX9_readsAddress_231 0 rfl ?_
        refine tw_iadd C dX9_readsAddress_233 (v := nI (a + (tabN m))) (nI_add _ _) ?_
        refine tw_putI (k := 2) C dX9_readsAddress_234 fc_X9 sh_9 (hG 9 (by decide)) rfl (by decide) rfl wd_360 rfl rfl ?_
        refine TW.sS (S' := UF B (upd F 2 (nI (a + (tabN m)))) (setN (setN (A ++ List.replicate (16 + k) 0) 24 (be (nb bs a 8) 8)) (24 + 8) (be (nb bs (a + 8) 8) 8))) (UF_uI _ _ _ _ _) ?_
        refine tw_iconst C dX9_readsAddress_237 (v := nI 1) (by decide) ?_
        exact tw_ireturn C Q dX9_readsAddress_238 rfl rfl rfl (Or.inl ⟨by omega, rfl, upd F 2 (nI (a + (tabN m))), by rw [uAd, if_pos cA, ad_16 hA], rfl, hF.2.1, hF.2.2.1, hF.2.2.2.1, hF.2.2.2.2.1, hF.2.2.2.2.2.1, hF.2.2.2.2.2.2⟩)
    · exact absurd c4 (by decide)
  · show TW G X (UF B (upd (upd F 3 (nI 1)) 4 (nI bs.length)) (A ++ List.replicate (16 + k) 0)) [(4, .int (nI (tabN m))), (0, .ref (tw_ad G 9)), (1, .ref (tw_ad G q)), (2, .int (nI m)), (3, .int (nI 24))] 13 [.int (bI false)]
    refine tb_if_ne C dX9_readsAddress_13 (tgt := 18) (by decide) (fun c21 => ?_) (fun c21 => ?_)
    · exact absurd c21 (by decide)
    refine tw_iconst C dX9_readsAddress_16 (v := nI 0) (by decide) ?_
    exact tw_ireturn C Q dX9_readsAddress_17 rfl rfl rfl (Or.inr ⟨by omega, rfl, Nat.one_ne_zero, _, _, rfl, rfl, rfl⟩)
