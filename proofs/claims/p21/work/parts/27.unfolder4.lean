theorem rep40 (v k h : Nat) : ((setN (List.replicate 40 0) 0 (be v 4)).set 6 k).set 7 h = (be v 4 ++ [0, 0, k, h]) ++ List.replicate (16 + 16) 0 := by
  have e1 := setN_at [] (be v 4) 36 4 0 rfl (be_len _ _)
  simp only [List.nil_append] at e1
  rw [show (40 : Nat) = 4 + 36 by rfl, e1, show (36 : Nat) = 2 + (33 + 1) by rfl, rep_split, set_at _ 33 k 6 (by simp [be_len]), show (33 : Nat) = 32 + 1 by rfl, set_at _ 32 h 7 (by simp [be_len])]
  simp
theorem setN_mid (X Y B : List Nat) (i : Nat) (Z : List Nat) (hi : i = X.length) (h : Z.length = B.length) : setN (X ++ (Z ++ Y)) i B = X ++ (B ++ Y) := by
  subst hi
  rw [setN_app B X (Z ++ Y) (by simp [h]), List.append_assoc, ← h, List.drop_left]
theorem uF_t {K : kN} {bs : List Nat} {s : Nat} {o : Option Nat} (h : (uFt K bs s).1 ≠ 0) : uF K bs s o = uFt K bs s := if_pos h
theorem uF_7 {K : kN} {bs : List Nat} {s : Nat} {o : Option Nat} (h : uFt K bs s = (0, 0)) (h2 : 560 < uBe bs s o) : uF K bs s o = (7, bs.length) := by
  unfold uF; rw [if_neg (by rw [h]; decide), if_pos h2]
theorem uF_0 {K : kN} {bs : List Nat} {s : Nat} {o : Option Nat} (h : uFt K bs s = (0, 0)) (h2 : uBe bs s o ≤ 560) : uF K bs s o = (0, 0) := by
  unfold uF; rw [if_neg (by rw [h]; decide), if_neg (by omega)]
theorem uHd_eq (K : kN) (bs : List Nat) (s m : Nat) (P : List Nat) (hP : P = (be (ff (uT bs (uTF (bs.getD s 0)) (uA1 (bs.getD (s + 1) 0) s)) (uL bs (uTF (bs.getD s 0)) (uA1 (bs.getD (s + 1) 0) s))) 4 ++ [0, 0, (if uPo (bs.getD s 0) then 17 else bs.getD (uA2 (bs.getD s 0) (bs.getD (s + 1) 0) s) 0), (if uHL (bs.getD s 0) = 0 then bs.getD (uA2 (bs.getD s 0) (bs.getD (s + 1) 0) s + (if uPo (bs.getD s 0) then 0 else 1)) 0 else if uHL (bs.getD s 0) = 1 then 1 else if uHL (bs.getD s 0) = 2 then 64 else 255)])
    ++ uAd K (uSrc (bs.getD (s + 1) 0)) 0 (uCx bs (bs.getD (s + 1) 0) s / 16) bs (uA4 (bs.getD s 0) (bs.getD (s + 1) 0) s) ++ uAd K (uGoal (bs.getD (s + 1) 0)) 1 (uCx bs (bs.getD (s + 1) 0) s % 16) bs (uA5 (bs.getD s 0) (bs.getD (s + 1) 0) s)) :
    (if uPo (bs.getD s 0) then setN (setN (P ++ (be (uPn (uFm bs (bs.getD s 0) (bs.getD (s + 1) 0) s - 240) (nb bs (uA6 (bs.getD s 0) (bs.getD (s + 1) 0) s + 1) (pfN (uFm bs (bs.getD s 0) (bs.getD (s + 1) 0) s - 240)))) 4 ++ (be 0 2 ++ be (nb bs (uA6 (bs.getD s 0) (bs.getD (s + 1) 0) s + 1 + pfN (uFm bs (bs.getD s 0) (bs.getD (s + 1) 0) s - 240)) 2) 2))) 4 (be m 2)) 44 (be m 2) else setN P 4 (be m 2)) = uHd K bs s m := by
  subst hP
  have e2 : be 0 2 = [0, 0] := by decide
  unfold uHd
  simp only [e2]
  by_cases hp : uPo (bs.getD s 0) = true
  · simp only [hp, if_true, List.append_assoc, List.cons_append, List.nil_append]
    have h4 := fun Y => setN_mid (be (ff (uT bs (uTF (bs.getD s 0)) (uA1 (bs.getD (s + 1) 0) s)) (uL bs (uTF (bs.getD s 0)) (uA1 (bs.getD (s + 1) 0) s))) 4) Y (be m 2) 4 [0, 0] (be_len _ _).symm (by simp [be_len])
    simp only [List.cons_append, List.nil_append] at h4
    rw [h4]
    have h44 := fun X Y hX => setN_mid X Y (be m 2) 44 [0, 0] hX (by simp [be_len])
    simp only [List.cons_append, List.nil_append] at h44
    have e : ∀ (a b c d e : List Nat) (k h : Nat) (Y : List Nat), a ++ (b ++ k :: h :: (c ++ (d ++ (e ++ 0 :: 0 :: Y)))) = (a ++ (b ++ k :: h :: (c ++ (d ++ e)))) ++ 0 :: 0 :: Y := by intros; simp
    rw [e, h44 _ _ (by simp [be_len, uAd_len])]
    simp
  · simp only [hp, Bool.false_eq_true, if_false, List.append_assoc, List.cons_append, List.nil_append, List.append_nil]
    have h4 := fun Y => setN_mid (be (ff (uT bs (uTF (bs.getD s 0)) (uA1 (bs.getD (s + 1) 0) s)) (uL bs (uTF (bs.getD s 0)) (uA1 (bs.getD (s + 1) 0) s))) 4) Y (be m 2) 4 [0, 0] (be_len _ _).symm (by simp [be_len])
    simp only [List.cons_append, List.nil_append] at h4
    rw [h4]
set_option maxHeartbeats 2000000 in
theorem c_X9_read0 {G : tw_G} (hG : tw_cG G) {B : tw_S} {F : Nat → Int32} {pk : List Nat} {q : Nat} (hq : tw_isRow q = true) (hq10 : q ≠ 10) {bs : List Nat} (hbs : tw_R B q = bs) (hby : ∀ x ∈ bs, x < 256) (hlen : bs.length ≤ 640) {K : kN} (hK : KN B K) {s : Nat} (hs : s < 2 ^ 20) (hs2 : s ≤ bs.length) : tw_M G yX9_read cX9_read 5 (some .boolean) 4 90 [.ref (tw_ad G 9), .ref (tw_ad G q), .int (nI s), .int (-1)] (UF B F pk) ri_I (fun v S' => ((uF K bs s none).1 = 0 ∧ v = bI true ∧ ∃ F', S' = UF B F' (uPk K bs s none) ∧ UK F' (uA7 bs (bs.getD s 0) (bs.getD (s + 1) 0) s) 0 0 (nI (bs.getD s 0)) (nI (bs.getD (s + 1) 0)) (nI (uCx bs (bs.getD (s + 1) 0) s)) (if uPo (bs.getD s 0) then nI (uFm bs (bs.getD s 0) (bs.getD (s + 1) 0) s - 240) else -2) ∧ F' 9 = nI (uA7 bs (bs.getD s 0) (bs.getD (s + 1) 0) s - s)) ∨ ((uF K bs s none).1 ≠ 0 ∧ v = bI false ∧ uFail B S' (uF K bs s none))) := by
  refine tw_M.of (L := [(0, .ref (tw_ad G 9)), (1, .ref (tw_ad G q)), (2, .int (nI s)), (3, .int ((-1)))]) (by decide) (Nat.le_of_ble_eq_true rfl) rfl (fun X C N Q => ?_)
  have C : tw_C G X cX9_read RX9 := C
  have hb0 := getD_in hby s
  have hb1 := getD_in hby (s + 1)
  have hsr : uSrc (bs.getD (s + 1) 0) < 8 := Nat.mod_lt _ (by decide)
  have hg : uGoal (bs.getD (s + 1) 0) < 16 := Nat.mod_lt _ (by decide)
  have hcx := uCx_lt hby (bs.getD (s + 1) 0) s
  refine tw_aload_n C dX9_read_0 0 rfl ?_
  refine tw_iload_n C dX9_read_1 2 rfl ?_
  refine tw_putI (k := 2) C dX9_read_2 fc_X9 sh_9 (hG 9 (by decide)) rfl (by decide) rfl wd_360 rfl rfl ?_
  refine TW.sS (S' := UF B (upd F 2 (nI s)) pk) (UF_uI _ _ _ _ _) ?_
  refine tw_aload_n C dX9_read_5 0 rfl ?_
  refine tw_iconst C dX9_read_6 (v := nI 0) (by decide) ?_
  refine tw_putI (k := 3) C dX9_read_7 fc_X9 sh_9 (hG 9 (by decide)) rfl (by decide) rfl wd_361 rfl rfl ?_
  refine TW.sS (S' := UF B (upd (upd F 2 (nI s)) 3 (nI 0)) pk) (UF_uI _ _ _ _ _) ?_
  refine tw_aload_n C dX9_read_10 0 rfl ?_
  refine tw_iconst C dX9_read_11 (v := nI 0) (by decide) ?_
  refine tw_putI (k := 4) C dX9_read_12 fc_X9 sh_9 (hG 9 (by decide)) rfl (by decide) rfl wd_362 rfl rfl ?_
  refine TW.sS (S' := UF B (upd (upd (upd F 2 (nI s)) 3 (nI 0)) 4 (nI 0)) pk) (UF_uI _ _ _ _ _) ?_
  refine tw_aload_n C dX9_read_15 0 rfl ?_
  refine tw_iconst C dX9_read_16 (v := nI 0) (by decide) ?_
  refine tw_putI (k := 7) C dX9_read_17 fc_X9 sh_9 (hG 9 (by decide)) rfl (by decide) rfl wd_363 rfl rfl ?_
  refine TW.sS (S' := UF B (upd (upd (upd (upd F 2 (nI s)) 3 (nI 0)) 4 (nI 0)) 7 (nI 0)) pk) (UF_uI _ _ _ _ _) ?_
  refine tw_aload_n C dX9_read_20 0 rfl ?_
  refine tw_bipush C dX9_read_21 (v := (-2)) (by decide) ?_
  refine tw_putI (k := 8) C dX9_read_23 fc_X9 sh_9 (hG 9 (by decide)) rfl (by decide) rfl wd_364 rfl rfl ?_
  refine TW.sS (S' := UF B (upd (upd (upd (upd (upd F 2 (nI s)) 3 (nI 0)) 4 (nI 0)) 7 (nI 0)) 8 ((-2))) pk) (UF_uI _ _ _ _ _) ?_
  refine tw_aload_n C dX9_read_26 0 rfl ?_
  refine tw_getR (q := 10) (k := 1) C dX9_read_27 fc_X9 sh_9 (hG 9 (by decide)) rfl (by decide) wd_64 ?_
  refine tw_bipush C dX9_read_30 (v := nI 40) (by decide) ?_
  refine tw_callV (As := [.int (nI 40)]) (rest := []) C N (c_X7_becomeZeros hG (S := UF B (upd (upd (upd (upd (upd F 2 (nI s)) 3 (nI 0)) 4 (nI 0)) 7 (nI 0)) 8 ((-2))) pk) tw_row10 (i := 40) (by omega)) mm_X7_becomeZeros wd_366 rfl (hG 10 (by decide)) sh_10 rfl (by decide) rfl (Nat.le_of_ble_eq_true rfl) dX9_read_32 ?_
  rintro _ _ rfl
  show TW G X (tw_uR (UF B (upd (upd (upd (upd (upd F 2 (nI s)) 3 (nI 0)) 4 (nI 0)) 7 (nI 0)) 8 ((-2))) pk) 10 ((List.replicate 40 0).take (tw_cap 10))) [(0, .ref (tw_ad G 9)), (1, .ref (tw_ad G q)), (2, .int (nI s)), (3, .int ((-1)))] 35 []
  refine TW.sS (S' := UF B (upd (upd (upd (upd (upd F 2 (nI s)) 3 (nI 0)) 4 (nI 0)) 7 (nI 0)) 8 ((-2))) ((List.replicate 40 0).take (tw_cap 10))) (UF_uR _ _ _ _) ?_
  refine TW.sS (S' := UF B (upd (upd (upd (upd (upd F 2 (nI s)) 3 (nI 0)) 4 (nI 0)) 7 (nI 0)) 8 ((-2))) (List.replicate 40 0)) (congrArg (UF B _) (List.take_of_length_le (by rw [List.length_replicate]; decide))) ?_
  refine tw_aload_n C dX9_read_35 0 rfl ?_
  refine tw_aload_n C dX9_read_36 1 rfl ?_
  refine tw_callV (As := [.ref (tw_ad G q)]) (rest := []) C N (c_X9_readsForm hG (B := B) (F := upd (upd (upd (upd (upd F 2 (nI s)) 3 (nI 0)) 4 (nI 0)) 7 (nI 0)) 8 ((-2))) (pk := List.replicate 40 0) hq hq10 hbs hby hlen (K := K) (s := s) (by omega) hs2 ⟨rfl, rfl, rfl, rfl, rfl, rfl, rfl⟩) mm_X9_readsForm wd_370 rfl (hG 9 (by decide)) sh_9 rfl (by decide) rfl (Nat.le_of_ble_eq_true rfl) dX9_read_37 ?_
  rintro _ _ (⟨hx8, rfl, F2, rfl, hF4⟩ | ⟨rfl, hne7, F9, pk3, rfl, h3_5, h4_6⟩)
  · show TW G X (UF B F2 (List.replicate 40 0)) [(0, .ref (tw_ad G 9)), (1, .ref (tw_ad G q)), (2, .int (nI s)), (3, .int ((-1)))] 40 [.int (bI true)]
    have hu1 := hx8
    refine tb_if_eq C dX9_read_40 (tgt := 115) (by decide) (fun c11 => ?_) (fun c11 => ?_)
    · exact absurd c11 (by decide)
    refine tw_aload_n C dX9_read_43 0 rfl ?_
    refine tw_aload_n C dX9_read_44 1 rfl ?_
    refine tw_callV (As := [.ref (tw_ad G q)]) (rest := []) C N (c_X9_readsContexts hG (B := B) (F := F2) (pk := List.replicate 40 0) hq hq10 hbs hby hlen hK (s := s) (by omega) hu1 hF4) mm_X9_readsContexts wd_394 rfl (hG 9 (by decide)) sh_9 rfl (by decide) rfl (Nat.le_of_ble_eq_true rfl) dX9_read_45 ?_
    rintro _ _ (⟨hx18, rfl, F12, rfl, hF14⟩ | ⟨rfl, hne17, F19, pk13, rfl, h3_15, h4_16⟩)
    · show TW G X (UF B F12 (List.replicate 40 0)) [(0, .ref (tw_ad G 9)), (1, .ref (tw_ad G q)), (2, .int (nI s)), (3, .int ((-1)))] 48 [.int (bI true)]
      have hu2 := hx18
      refine tb_if_eq C dX9_read_48 (tgt := 115) (by decide) (fun c21 => ?_) (fun c21 => ?_)
      · exact absurd c21 (by decide)
      refine tw_aload_n C dX9_read_51 0 rfl ?_
      refine tw_aload_n C dX9_read_52 1 rfl ?_
      refine tw_callV (As := [.ref (tw_ad G q)]) (rest := []) C N (c_X9_readsTraffic hG (B := B) (F := F12) (pk := List.replicate 40 0) hq hq10 hbs hby hlen (K := K) (s := s) (by omega) hu2 hF14) mm_X9_readsTraffic wd_404 rfl (hG 9 (by decide)) sh_9 rfl (by decide) rfl (Nat.le_of_ble_eq_true rfl) dX9_read_53 ?_
      rintro _ _ (⟨hx28, rfl, F22, rfl, hF24⟩ | ⟨rfl, hne27, F29, pk23, rfl, h3_25, h4_26⟩)
      · show TW G X (UF B F22 (setN (List.replicate 40 0) 0 (be (ff (uT bs (uTF (bs.getD s 0)) (uA1 (bs.getD (s + 1) 0) s)) (uL bs (uTF (bs.getD s 0)) (uA1 (bs.getD (s + 1) 0) s))) 4))) [(0, .ref (tw_ad G 9)), (1, .ref (tw_ad G q)), (2, .int (nI s)), (3, .int ((-1)))] 56 [.int (bI true)]
        have hu3 := hx28
        have ha2 := hu3.2.1
        refine tb_if_eq C dX9_read_56 (tgt := 115) (by decide) (fun c31 => ?_) (fun c31 => ?_)
        · exact absurd c31 (by decide)
        refine tw_aload_n C dX9_read_59 0 rfl ?_
        refine tw_aload_n C dX9_read_60 1 rfl ?_
        refine tw_callV (As := [.ref (tw_ad G q)]) (rest := []) C N (c_X9_readsKind hG (B := B) (F := F22) (pk := setN (List.replicate 40 0) 0 (be (ff (uT bs (uTF (bs.getD s 0)) (uA1 (bs.getD (s + 1) 0) s)) (uL bs (uTF (bs.getD s 0)) (uA1 (bs.getD (s + 1) 0) s))) 4)) hq hq10 hbs hby hlen (a := uA2 (bs.getD s 0) (bs.getD (s + 1) 0) s) ha2 hb0 hF24) mm_X9_readsKind wd_423 rfl (hG 9 (by decide)) sh_9 rfl (by decide) rfl (Nat.le_of_ble_eq_true rfl) dX9_read_61 ?_
        rintro _ _ (⟨hx38, rfl, F32, rfl, hF34⟩ | ⟨hx38, rfl, hne37, F39, pk33, rfl, h3_35, h4_36⟩)
        · show TW G X (UF B F32 ((setN (List.replicate 40 0) 0 (be (ff (uT bs (uTF (bs.getD s 0)) (uA1 (bs.getD (s + 1) 0) s)) (uL bs (uTF (bs.getD s 0)) (uA1 (bs.getD (s + 1) 0) s))) 4)).set 6 (if uPo (bs.getD s 0) then 17 else bs.getD (uA2 (bs.getD s 0) (bs.getD (s + 1) 0) s) 0))) [(0, .ref (tw_ad G 9)), (1, .ref (tw_ad G q)), (2, .int (nI s)), (3, .int ((-1)))] 64 [.int (bI true)]
          have ha3 := hx38
          refine tb_if_eq C dX9_read_64 (tgt := 115) (by decide) (fun c41 => ?_) (fun c41 => ?_)
          · exact absurd c41 (by decide)
          refine tw_aload_n C dX9_read_67 0 rfl ?_
          refine tw_aload_n C dX9_read_68 1 rfl ?_
          refine tw_callV (As := [.ref (tw_ad G q)]) (rest := []) C N (c_X9_readsHops hG (B := B) (F := F32) (pk := (setN (List.replicate 40 0) 0 (be (ff (uT bs (uTF (bs.getD s 0)) (uA1 (bs.getD (s + 1) 0) s)) (uL bs (uTF (bs.getD s 0)) (uA1 (bs.getD (s + 1) 0) s))) 4)).set 6 (if uPo (bs.getD s 0) then 17 else bs.getD (uA2 (bs.getD s 0) (bs.getD (s + 1) 0) s) 0)) hq hq10 hbs hby hlen (a := (uA2 (bs.getD s 0) (bs.getD (s + 1) 0) s + (if uPo (bs.getD s 0) then 0 else 1))) ha3 hb0 hF34) mm_X9_readsHops wd_432 rfl (hG 9 (by decide)) sh_9 rfl (by decide) rfl (Nat.le_of_ble_eq_true rfl) dX9_read_69 ?_
          rintro _ _ (⟨hx48, rfl, F42, rfl, hF44⟩ | ⟨hx48, rfl, hne47, F49, pk43, rfl, h3_45, h4_46⟩)
          · show TW G X (UF B F42 (((setN (List.replicate 40 0) 0 (be (ff (uT bs (uTF (bs.getD s 0)) (uA1 (bs.getD (s + 1) 0) s)) (uL bs (uTF (bs.getD s 0)) (uA1 (bs.getD (s + 1) 0) s))) 4)).set 6 (if uPo (bs.getD s 0) then 17 else bs.getD (uA2 (bs.getD s 0) (bs.getD (s + 1) 0) s) 0)).set 7 (if uHL (bs.getD s 0) = 0 then bs.getD (uA2 (bs.getD s 0) (bs.getD (s + 1) 0) s + (if uPo (bs.getD s 0) then 0 else 1)) 0 else if uHL (bs.getD s 0) = 1 then 1 else if uHL (bs.getD s 0) = 2 then 64 else 255))) [(0, .ref (tw_ad G 9)), (1, .ref (tw_ad G q)), (2, .int (nI s)), (3, .int ((-1)))] 72 [.int (bI true)]
            have ha4 : uA4 (bs.getD s 0) (bs.getD (s + 1) 0) s ≤ bs.length := hx48
            refine tb_if_eq C dX9_read_72 (tgt := 115) (by decide) (fun c51 => ?_) (fun c51 => ?_)
            · exact absurd c51 (by decide)
            refine TW.sS (S' := UF B F42 ((be (ff (uT bs (uTF (bs.getD s 0)) (uA1 (bs.getD (s + 1) 0) s)) (uL bs (uTF (bs.getD s 0)) (uA1 (bs.getD (s + 1) 0) s))) 4 ++ [0, 0, (if uPo (bs.getD s 0) then 17 else bs.getD (uA2 (bs.getD s 0) (bs.getD (s + 1) 0) s) 0), (if uHL (bs.getD s 0) = 0 then bs.getD (uA2 (bs.getD s 0) (bs.getD (s + 1) 0) s + (if uPo (bs.getD s 0) then 0 else 1)) 0 else if uHL (bs.getD s 0) = 1 then 1 else if uHL (bs.getD s 0) = 2 then 64 else 255)]) ++ List.replicate (16 + 16) 0)) (congrArg (UF B _) (rep40 _ _ _)) ?_
            refine tw_aload_n C dX9_read_75 0 rfl ?_
            refine tw_aload_n C dX9_read_76 1 rfl ?_
            refine tw_aload_n C dX9_read_77 0 rfl ?_
            refine tw_callV (As := []) (rest := [.ref (tw_ad G q), .ref (tw_ad G 9)]) C N (c_X9_source hG (B := B) (F := F42) (pk := (be (ff (uT bs (uTF (bs.getD s 0)) (uA1 (bs.getD (s + 1) 0) s)) (uL bs (uTF (bs.getD s 0)) (uA1 (bs.getD (s + 1) 0) s))) 4 ++ [0, 0, (if uPo (bs.getD s 0) then 17 else bs.getD (uA2 (bs.getD s 0) (bs.getD (s + 1) 0) s) 0), (if uHL (bs.getD s 0) = 0 then bs.getD (uA2 (bs.getD s 0) (bs.getD (s + 1) 0) s + (if uPo (bs.getD s 0) then 0 else 1)) 0 else if uHL (bs.getD s 0) = 1 then 1 else if uHL (bs.getD s 0) = 2 then 64 else 255)]) ++ List.replicate (16 + 16) 0) (b1 := (bs.getD (s + 1) 0)) hF44.2.2.2.2.1 (by assumption)) mm_X9_source wd_398 rfl (hG 9 (by decide)) sh_9 rfl (by decide) rfl (Nat.le_of_ble_eq_true rfl) dX9_read_78 ?_
            rintro _ _ ⟨rfl, rfl⟩
            show TW G X (UF B F42 ((be (ff (uT bs (uTF (bs.getD s 0)) (uA1 (bs.getD (s + 1) 0) s)) (uL bs (uTF (bs.getD s 0)) (uA1 (bs.getD (s + 1) 0) s))) 4 ++ [0, 0, (if uPo (bs.getD s 0) then 17 else bs.getD (uA2 (bs.getD s 0) (bs.getD (s + 1) 0) s) 0), (if uHL (bs.getD s 0) = 0 then bs.getD (uA2 (bs.getD s 0) (bs.getD (s + 1) 0) s + (if uPo (bs.getD s 0) then 0 else 1)) 0 else if uHL (bs.getD s 0) = 1 then 1 else if uHL (bs.getD s 0) = 2 then 64 else 255)]) ++ List.replicate (16 + 16) 0)) [(0, .ref (tw_ad G 9)), (1, .ref (tw_ad G q)), (2, .int (nI s)), (3, .int ((-1)))] 81 [.int (nI (uSrc ((bs.getD (s + 1) 0)))), .ref (tw_ad G q), .ref (tw_ad G 9)]
            refine tw_bipush C dX9_read_81 (v := nI 8) (by decide) ?_
            refine tw_callV (As := [.ref (tw_ad G q), .int (nI (uSrc ((bs.getD (s + 1) 0)))), .int (nI 8)]) (rest := []) C N (c_X9_readsAddress0 hG (B := B) (F := F42) hq hq10 hbs hby hlen hK (A := (be (ff (uT bs (uTF (bs.getD s 0)) (uA1 (bs.getD (s + 1) 0) s)) (uL bs (uTF (bs.getD s 0)) (uA1 (bs.getD (s + 1) 0) s))) 4 ++ [0, 0, (if uPo (bs.getD s 0) then 17 else bs.getD (uA2 (bs.getD s 0) (bs.getD (s + 1) 0) s) 0), (if uHL (bs.getD s 0) = 0 then bs.getD (uA2 (bs.getD s 0) (bs.getD (s + 1) 0) s + (if uPo (bs.getD s 0) then 0 else 1)) 0 else if uHL (bs.getD s 0) = 1 then 1 else if uHL (bs.getD s 0) = 2 then 64 else 255)])) (k := 16) (a := uA4 (bs.getD s 0) (bs.getD (s + 1) 0) s) (m := uSrc (bs.getD (s + 1) 0)) (cx := uCx bs (bs.getD (s + 1) 0) s) (by simp [be_len]) ha4 (by omega) hcx hF44) mm_X9_readsAddress wd_436 rfl (hG 9 (by decide)) sh_9 rfl (by decide) rfl (Nat.le_of_ble_eq_true rfl) dX9_read_83 ?_
            rintro _ _ (⟨hx59, rfl, F53, rfl, hF55⟩ | ⟨hx59, rfl, hne58, F60, pk54, rfl, h3_56, h4_57⟩)
            · show TW G X (UF B F53 ((be (ff (uT bs (uTF (bs.getD s 0)) (uA1 (bs.getD (s + 1) 0) s)) (uL bs (uTF (bs.getD s 0)) (uA1 (bs.getD (s + 1) 0) s))) 4 ++ [0, 0, (if uPo (bs.getD s 0) then 17 else bs.getD (uA2 (bs.getD s 0) (bs.getD (s + 1) 0) s) 0), (if uHL (bs.getD s 0) = 0 then bs.getD (uA2 (bs.getD s 0) (bs.getD (s + 1) 0) s + (if uPo (bs.getD s 0) then 0 else 1)) 0 else if uHL (bs.getD s 0) = 1 then 1 else if uHL (bs.getD s 0) = 2 then 64 else 255)]) ++ uAd K (uSrc (bs.getD (s + 1) 0)) 0 (uCx bs (bs.getD (s + 1) 0) s / 16) bs (uA4 (bs.getD s 0) (bs.getD (s + 1) 0) s) ++ List.replicate 16 0)) [(0, .ref (tw_ad G 9)), (1, .ref (tw_ad G q)), (2, .int (nI s)), (3, .int ((-1)))] 86 [.int (bI true)]
              have ha5 : uA5 (bs.getD s 0) (bs.getD (s + 1) 0) s ≤ bs.length := hx59
              refine tb_if_eq C dX9_read_86 (tgt := 115) (by decide) (fun c62 => ?_) (fun c62 => ?_)
              · exact absurd c62 (by decide)
              refine TW.sS (S' := UF B F53 ((be (ff (uT bs (uTF (bs.getD s 0)) (uA1 (bs.getD (s + 1) 0) s)) (uL bs (uTF (bs.getD s 0)) (uA1 (bs.getD (s + 1) 0) s))) 4 ++ [0, 0, (if uPo (bs.getD s 0) then 17 else bs.getD (uA2 (bs.getD s 0) (bs.getD (s + 1) 0) s) 0), (if uHL (bs.getD s 0) = 0 then bs.getD (uA2 (bs.getD s 0) (bs.getD (s + 1) 0) s + (if uPo (bs.getD s 0) then 0 else 1)) 0 else if uHL (bs.getD s 0) = 1 then 1 else if uHL (bs.getD s 0) = 2 then 64 else 255)]) ++ uAd K (uSrc (bs.getD (s + 1) 0)) 0 (uCx bs (bs.getD (s + 1) 0) s / 16) bs (uA4 (bs.getD s 0) (bs.getD (s + 1) 0) s) ++ List.replicate (16 + 0) 0)) rfl ?_
              refine tw_aload_n C dX9_read_89 0 rfl ?_
              have hgo := hu1.2.2
              refine tw_aload_n C dX9_read_90 1 rfl ?_
              refine tw_aload_n C dX9_read_91 0 rfl ?_
              refine tw_callV (As := []) (rest := [.ref (tw_ad G q), .ref (tw_ad G 9)]) C N (c_X9_goal hG (B := B) (F := F53) (pk := (be (ff (uT bs (uTF (bs.getD s 0)) (uA1 (bs.getD (s + 1) 0) s)) (uL bs (uTF (bs.getD s 0)) (uA1 (bs.getD (s + 1) 0) s))) 4 ++ [0, 0, (if uPo (bs.getD s 0) then 17 else bs.getD (uA2 (bs.getD s 0) (bs.getD (s + 1) 0) s) 0), (if uHL (bs.getD s 0) = 0 then bs.getD (uA2 (bs.getD s 0) (bs.getD (s + 1) 0) s + (if uPo (bs.getD s 0) then 0 else 1)) 0 else if uHL (bs.getD s 0) = 1 then 1 else if uHL (bs.getD s 0) = 2 then 64 else 255)]) ++ uAd K (uSrc (bs.getD (s + 1) 0)) 0 (uCx bs (bs.getD (s + 1) 0) s / 16) bs (uA4 (bs.getD s 0) (bs.getD (s + 1) 0) s) ++ List.replicate (16 + 0) 0) (b1 := (bs.getD (s + 1) 0)) hF55.2.2.2.2.1 (by assumption)) mm_X9_goal wd_390 rfl (hG 9 (by decide)) sh_9 rfl (by decide) rfl (Nat.le_of_ble_eq_true rfl) dX9_read_92 ?_
              rintro _ _ ⟨rfl, rfl⟩
              show TW G X (UF B F53 ((be (ff (uT bs (uTF (bs.getD s 0)) (uA1 (bs.getD (s + 1) 0) s)) (uL bs (uTF (bs.getD s 0)) (uA1 (bs.getD (s + 1) 0) s))) 4 ++ [0, 0, (if uPo (bs.getD s 0) then 17 else bs.getD (uA2 (bs.getD s 0) (bs.getD (s + 1) 0) s) 0), (if uHL (bs.getD s 0) = 0 then bs.getD (uA2 (bs.getD s 0) (bs.getD (s + 1) 0) s + (if uPo (bs.getD s 0) then 0 else 1)) 0 else if uHL (bs.getD s 0) = 1 then 1 else if uHL (bs.getD s 0) = 2 then 64 else 255)]) ++ uAd K (uSrc (bs.getD (s + 1) 0)) 0 (uCx bs (bs.getD (s + 1) 0) s / 16) bs (uA4 (bs.getD s 0) (bs.getD (s + 1) 0) s) ++ List.replicate (16 + 0) 0)) [(0, .ref (tw_ad G 9)), (1, .ref (tw_ad G q)), (2, .int (nI s)), (3, .int ((-1)))] 95 [.int (nI (uGoal ((bs.getD (s + 1) 0)))), .ref (tw_ad G q), .ref (tw_ad G 9)]
              refine tw_bipush C dX9_read_95 (v := nI 24) (by decide) ?_
              refine tw_callV (As := [.ref (tw_ad G q), .int (nI (uGoal ((bs.getD (s + 1) 0)))), .int (nI 24)]) (rest := []) C N (c_X9_readsAddress1 hG (B := B) (F := F53) hq hq10 hbs hby hlen hK (A := (be (ff (uT bs (uTF (bs.getD s 0)) (uA1 (bs.getD (s + 1) 0) s)) (uL bs (uTF (bs.getD s 0)) (uA1 (bs.getD (s + 1) 0) s))) 4 ++ [0, 0, (if uPo (bs.getD s 0) then 17 else bs.getD (uA2 (bs.getD s 0) (bs.getD (s + 1) 0) s) 0), (if uHL (bs.getD s 0) = 0 then bs.getD (uA2 (bs.getD s 0) (bs.getD (s + 1) 0) s + (if uPo (bs.getD s 0) then 0 else 1)) 0 else if uHL (bs.getD s 0) = 1 then 1 else if uHL (bs.getD s 0) = 2 then 64 else 255)]) ++ uAd K (uSrc (bs.getD (s + 1) 0)) 0 (uCx bs (bs.getD (s + 1) 0) s / 16) bs (uA4 (bs.getD s 0) (bs.getD (s + 1) 0) s)) (k := 0) (a := uA5 (bs.getD s 0) (bs.getD (s + 1) 0) s) (m := uGoal (bs.getD (s + 1) 0)) (cx := uCx bs (bs.getD (s + 1) 0) s) (by simp [be_len, uAd_len]) ha5 (by omega) hcx hF55) mm_X9_readsAddress wd_436 rfl (hG 9 (by decide)) sh_9 rfl (by decide) rfl (Nat.le_of_ble_eq_true rfl) dX9_read_97 ?_
              rintro _ _ (⟨hx70, rfl, F64, rfl, hF66⟩ | ⟨hx70, rfl, hne69, F71, pk65, rfl, h3_67, h4_68⟩)
              · show TW G X (UF B F64 ((be (ff (uT bs (uTF (bs.getD s 0)) (uA1 (bs.getD (s + 1) 0) s)) (uL bs (uTF (bs.getD s 0)) (uA1 (bs.getD (s + 1) 0) s))) 4 ++ [0, 0, (if uPo (bs.getD s 0) then 17 else bs.getD (uA2 (bs.getD s 0) (bs.getD (s + 1) 0) s) 0), (if uHL (bs.getD s 0) = 0 then bs.getD (uA2 (bs.getD s 0) (bs.getD (s + 1) 0) s + (if uPo (bs.getD s 0) then 0 else 1)) 0 else if uHL (bs.getD s 0) = 1 then 1 else if uHL (bs.getD s 0) = 2 then 64 else 255)]) ++ uAd K (uSrc (bs.getD (s + 1) 0)) 0 (uCx bs (bs.getD (s + 1) 0) s / 16) bs (uA4 (bs.getD s 0) (bs.getD (s + 1) 0) s) ++ uAd K (uGoal (bs.getD (s + 1) 0)) 1 (uCx bs (bs.getD (s + 1) 0) s % 16) bs (uA5 (bs.getD s 0) (bs.getD (s + 1) 0) s) ++ List.replicate 0 0)) [(0, .ref (tw_ad G 9)), (1, .ref (tw_ad G q)), (2, .int (nI s)), (3, .int ((-1)))] 100 [.int (bI true)]
                have ha6 : uA6 (bs.getD s 0) (bs.getD (s + 1) 0) s ≤ bs.length := hx70
                refine tb_if_eq C dX9_read_100 (tgt := 115) (by decide) (fun c73 => ?_) (fun c73 => ?_)
                · exact absurd c73 (by decide)
                refine TW.sS (S' := UF B F64 ((be (ff (uT bs (uTF (bs.getD s 0)) (uA1 (bs.getD (s + 1) 0) s)) (uL bs (uTF (bs.getD s 0)) (uA1 (bs.getD (s + 1) 0) s))) 4 ++ [0, 0, (if uPo (bs.getD s 0) then 17 else bs.getD (uA2 (bs.getD s 0) (bs.getD (s + 1) 0) s) 0), (if uHL (bs.getD s 0) = 0 then bs.getD (uA2 (bs.getD s 0) (bs.getD (s + 1) 0) s + (if uPo (bs.getD s 0) then 0 else 1)) 0 else if uHL (bs.getD s 0) = 1 then 1 else if uHL (bs.getD s 0) = 2 then 64 else 255)]) ++ uAd K (uSrc (bs.getD (s + 1) 0)) 0 (uCx bs (bs.getD (s + 1) 0) s / 16) bs (uA4 (bs.getD s 0) (bs.getD (s + 1) 0) s) ++ uAd K (uGoal (bs.getD (s + 1) 0)) 1 (uCx bs (bs.getD (s + 1) 0) s % 16) bs (uA5 (bs.getD s 0) (bs.getD (s + 1) 0) s))) (congrArg (UF B _) (by simp)) ?_
                refine tw_aload_n C dX9_read_103 0 rfl ?_
                refine tw_aload_n C dX9_read_104 1 rfl ?_
                refine tw_callV (As := [.ref (tw_ad G q)]) (rest := []) C N (c_X9_readsPorts hG (B := B) (F := F64) (pk := (be (ff (uT bs (uTF (bs.getD s 0)) (uA1 (bs.getD (s + 1) 0) s)) (uL bs (uTF (bs.getD s 0)) (uA1 (bs.getD (s + 1) 0) s))) 4 ++ [0, 0, (if uPo (bs.getD s 0) then 17 else bs.getD (uA2 (bs.getD s 0) (bs.getD (s + 1) 0) s) 0), (if uHL (bs.getD s 0) = 0 then bs.getD (uA2 (bs.getD s 0) (bs.getD (s + 1) 0) s + (if uPo (bs.getD s 0) then 0 else 1)) 0 else if uHL (bs.getD s 0) = 1 then 1 else if uHL (bs.getD s 0) = 2 then 64 else 255)]) ++ uAd K (uSrc (bs.getD (s + 1) 0)) 0 (uCx bs (bs.getD (s + 1) 0) s / 16) bs (uA4 (bs.getD s 0) (bs.getD (s + 1) 0) s) ++ uAd K (uGoal (bs.getD (s + 1) 0)) 1 (uCx bs (bs.getD (s + 1) 0) s % 16) bs (uA5 (bs.getD s 0) (bs.getD (s + 1) 0) s)) hq hq10 hbs hby hlen (K := K) (s := s) (by omega) hu3 ha6 (by simp [be_len, uAd_len]) hF66) mm_X9_readsPorts wd_459 rfl (hG 9 (by decide)) sh_9 rfl (by decide) rfl (Nat.le_of_ble_eq_true rfl) dX9_read_105 ?_
                rintro _ _ (⟨hft0, hx80, rfl, F74, rfl, hF76⟩ | ⟨rfl, hne79, F81, pk75, rfl, h3_77, h4_78⟩)
                · show TW G X (UF B F74 (if uPo (bs.getD s 0) then ((be (ff (uT bs (uTF (bs.getD s 0)) (uA1 (bs.getD (s + 1) 0) s)) (uL bs (uTF (bs.getD s 0)) (uA1 (bs.getD (s + 1) 0) s))) 4 ++ [0, 0, (if uPo (bs.getD s 0) then 17 else bs.getD (uA2 (bs.getD s 0) (bs.getD (s + 1) 0) s) 0), (if uHL (bs.getD s 0) = 0 then bs.getD (uA2 (bs.getD s 0) (bs.getD (s + 1) 0) s + (if uPo (bs.getD s 0) then 0 else 1)) 0 else if uHL (bs.getD s 0) = 1 then 1 else if uHL (bs.getD s 0) = 2 then 64 else 255)]) ++ uAd K (uSrc (bs.getD (s + 1) 0)) 0 (uCx bs (bs.getD (s + 1) 0) s / 16) bs (uA4 (bs.getD s 0) (bs.getD (s + 1) 0) s) ++ uAd K (uGoal (bs.getD (s + 1) 0)) 1 (uCx bs (bs.getD (s + 1) 0) s % 16) bs (uA5 (bs.getD s 0) (bs.getD (s + 1) 0) s)) ++ (be (uPn (uFm bs (bs.getD s 0) (bs.getD (s + 1) 0) s - 240) (nb bs (uA6 (bs.getD s 0) (bs.getD (s + 1) 0) s + 1) (pfN (uFm bs (bs.getD s 0) (bs.getD (s + 1) 0) s - 240)))) 4 ++ (be 0 2 ++ be (nb bs (uA6 (bs.getD s 0) (bs.getD (s + 1) 0) s + 1 + pfN (uFm bs (bs.getD s 0) (bs.getD (s + 1) 0) s - 240)) 2) 2)) else ((be (ff (uT bs (uTF (bs.getD s 0)) (uA1 (bs.getD (s + 1) 0) s)) (uL bs (uTF (bs.getD s 0)) (uA1 (bs.getD (s + 1) 0) s))) 4 ++ [0, 0, (if uPo (bs.getD s 0) then 17 else bs.getD (uA2 (bs.getD s 0) (bs.getD (s + 1) 0) s) 0), (if uHL (bs.getD s 0) = 0 then bs.getD (uA2 (bs.getD s 0) (bs.getD (s + 1) 0) s + (if uPo (bs.getD s 0) then 0 else 1)) 0 else if uHL (bs.getD s 0) = 1 then 1 else if uHL (bs.getD s 0) = 2 then 64 else 255)]) ++ uAd K (uSrc (bs.getD (s + 1) 0)) 0 (uCx bs (bs.getD (s + 1) 0) s / 16) bs (uA4 (bs.getD s 0) (bs.getD (s + 1) 0) s) ++ uAd K (uGoal (bs.getD (s + 1) 0)) 1 (uCx bs (bs.getD (s + 1) 0) s % 16) bs (uA5 (bs.getD s 0) (bs.getD (s + 1) 0) s)))) [(0, .ref (tw_ad G 9)), (1, .ref (tw_ad G q)), (2, .int (nI s)), (3, .int ((-1)))] 108 [.int (bI true)]
                  have ha7 := hx80
                  refine tb_if_eq C dX9_read_108 (tgt := 115) (by decide) (fun c83 => ?_) (fun c83 => ?_)
                  · exact absurd c83 (by decide)
                  refine tw_iconst C dX9_read_111 (v := nI 1) (by decide) ?_
                  refine tw_goto C dX9_read_112 (tgt := 116) (by decide) ?_
                  refine tw_istore (L' := [(4, .int (nI 1)), (0, .ref (tw_ad G 9)), (1, .ref (tw_ad G q)), (2, .int (nI s)), (3, .int ((-1)))]) C N dX9_read_116 (i := 4) (by decide) rfl ?_
                  refine tw_aload_n C dX9_read_118 1 rfl ?_
                  refine tw_aload_n C dX9_read_119 1 rfl ?_
                  refine tw_getI (v := nI (uA7 bs (bs.getD s 0) (bs.getD (s + 1) 0) s)) (k := 2) C dX9_read_120 fc_X9 sh_9 (hG 9 (by decide)) rfl (by decide) wd_360 hF76.1 ?_
                  refine tw_iload_n C dX9_read_123 3 rfl ?_
                  refine tw_isub C dX9_read_124 (v := nI ((uA7 bs (bs.getD s 0) (bs.getD (s + 1) 0) s) - s)) (pk_sub (by first | omega | (unfold uA7 uA6 uA5 uA4 uA2 uA1; split <;> split <;> omega))) ?_
                  refine tw_putI (k := 9) C dX9_read_125 fc_X9 sh_9 (hG 9 (by decide)) rfl (by decide) rfl wd_365 rfl rfl ?_
                  refine TW.sS (S' := UF B (upd F74 9 (nI ((uA7 bs (bs.getD s 0) (bs.getD (s + 1) 0) s) - s))) (if uPo (bs.getD s 0) then ((be (ff (uT bs (uTF (bs.getD s 0)) (uA1 (bs.getD (s + 1) 0) s)) (uL bs (uTF (bs.getD s 0)) (uA1 (bs.getD (s + 1) 0) s))) 4 ++ [0, 0, (if uPo (bs.getD s 0) then 17 else bs.getD (uA2 (bs.getD s 0) (bs.getD (s + 1) 0) s) 0), (if uHL (bs.getD s 0) = 0 then bs.getD (uA2 (bs.getD s 0) (bs.getD (s + 1) 0) s + (if uPo (bs.getD s 0) then 0 else 1)) 0 else if uHL (bs.getD s 0) = 1 then 1 else if uHL (bs.getD s 0) = 2 then 64 else 255)]) ++ uAd K (uSrc (bs.getD (s + 1) 0)) 0 (uCx bs (bs.getD (s + 1) 0) s / 16) bs (uA4 (bs.getD s 0) (bs.getD (s + 1) 0) s) ++ uAd K (uGoal (bs.getD (s + 1) 0)) 1 (uCx bs (bs.getD (s + 1) 0) s % 16) bs (uA5 (bs.getD s 0) (bs.getD (s + 1) 0) s)) ++ (be (uPn (uFm bs (bs.getD s 0) (bs.getD (s + 1) 0) s - 240) (nb bs (uA6 (bs.getD s 0) (bs.getD (s + 1) 0) s + 1) (pfN (uFm bs (bs.getD s 0) (bs.getD (s + 1) 0) s - 240)))) 4 ++ (be 0 2 ++ be (nb bs (uA6 (bs.getD s 0) (bs.getD (s + 1) 0) s + 1 + pfN (uFm bs (bs.getD s 0) (bs.getD (s + 1) 0) s - 240)) 2) 2)) else ((be (ff (uT bs (uTF (bs.getD s 0)) (uA1 (bs.getD (s + 1) 0) s)) (uL bs (uTF (bs.getD s 0)) (uA1 (bs.getD (s + 1) 0) s))) 4 ++ [0, 0, (if uPo (bs.getD s 0) then 17 else bs.getD (uA2 (bs.getD s 0) (bs.getD (s + 1) 0) s) 0), (if uHL (bs.getD s 0) = 0 then bs.getD (uA2 (bs.getD s 0) (bs.getD (s + 1) 0) s + (if uPo (bs.getD s 0) then 0 else 1)) 0 else if uHL (bs.getD s 0) = 1 then 1 else if uHL (bs.getD s 0) = 2 then 64 else 255)]) ++ uAd K (uSrc (bs.getD (s + 1) 0)) 0 (uCx bs (bs.getD (s + 1) 0) s / 16) bs (uA4 (bs.getD s 0) (bs.getD (s + 1) 0) s) ++ uAd K (uGoal (bs.getD (s + 1) 0)) 1 (uCx bs (bs.getD (s + 1) 0) s % 16) bs (uA5 (bs.getD s 0) (bs.getD (s + 1) 0) s)))) (UF_uI _ _ _ _ _) ?_
                  refine tw_iload C dX9_read_128 0 rfl ?_
                  refine tn_if_eq C dX9_read_130 (tgt := 146) (by decide) (by omega) (fun c84 => ?_) (fun c84 => ?_)
                  · exact absurd c84 (by decide)
                  refine tw_aload_n C dX9_read_133 1 rfl ?_
                  refine tw_aload_n C dX9_read_134 2 rfl ?_
                  refine tw_iload_n C dX9_read_135 4 rfl ?_
                  refine tw_callV (As := [.ref (tw_ad G q), .int ((-1))]) (rest := []) C N (c_X9_readsRest0 hG (B := B) (F := upd F74 9 (nI ((uA7 bs (bs.getD s 0) (bs.getD (s + 1) 0) s) - s))) (pk := if uPo (bs.getD s 0) then ((be (ff (uT bs (uTF (bs.getD s 0)) (uA1 (bs.getD (s + 1) 0) s)) (uL bs (uTF (bs.getD s 0)) (uA1 (bs.getD (s + 1) 0) s))) 4 ++ [0, 0, (if uPo (bs.getD s 0) then 17 else bs.getD (uA2 (bs.getD s 0) (bs.getD (s + 1) 0) s) 0), (if uHL (bs.getD s 0) = 0 then bs.getD (uA2 (bs.getD s 0) (bs.getD (s + 1) 0) s + (if uPo (bs.getD s 0) then 0 else 1)) 0 else if uHL (bs.getD s 0) = 1 then 1 else if uHL (bs.getD s 0) = 2 then 64 else 255)]) ++ uAd K (uSrc (bs.getD (s + 1) 0)) 0 (uCx bs (bs.getD (s + 1) 0) s / 16) bs (uA4 (bs.getD s 0) (bs.getD (s + 1) 0) s) ++ uAd K (uGoal (bs.getD (s + 1) 0)) 1 (uCx bs (bs.getD (s + 1) 0) s % 16) bs (uA5 (bs.getD s 0) (bs.getD (s + 1) 0) s)) ++ (be (uPn (uFm bs (bs.getD s 0) (bs.getD (s + 1) 0) s - 240) (nb bs (uA6 (bs.getD s 0) (bs.getD (s + 1) 0) s + 1) (pfN (uFm bs (bs.getD s 0) (bs.getD (s + 1) 0) s - 240)))) 4 ++ (be 0 2 ++ be (nb bs (uA6 (bs.getD s 0) (bs.getD (s + 1) 0) s + 1 + pfN (uFm bs (bs.getD s 0) (bs.getD (s + 1) 0) s - 240)) 2) 2)) else ((be (ff (uT bs (uTF (bs.getD s 0)) (uA1 (bs.getD (s + 1) 0) s)) (uL bs (uTF (bs.getD s 0)) (uA1 (bs.getD (s + 1) 0) s))) 4 ++ [0, 0, (if uPo (bs.getD s 0) then 17 else bs.getD (uA2 (bs.getD s 0) (bs.getD (s + 1) 0) s) 0), (if uHL (bs.getD s 0) = 0 then bs.getD (uA2 (bs.getD s 0) (bs.getD (s + 1) 0) s + (if uPo (bs.getD s 0) then 0 else 1)) 0 else if uHL (bs.getD s 0) = 1 then 1 else if uHL (bs.getD s 0) = 2 then 64 else 255)]) ++ uAd K (uSrc (bs.getD (s + 1) 0)) 0 (uCx bs (bs.getD (s + 1) 0) s / 16) bs (uA4 (bs.getD s 0) (bs.getD (s + 1) 0) s) ++ uAd K (uGoal (bs.getD (s + 1) 0)) 1 (uCx bs (bs.getD (s + 1) 0) s % 16) bs (uA5 (bs.getD s 0) (bs.getD (s + 1) 0) s))) hq hq10 hbs hby hlen (s := s) (by omega) ha7 (by by_cases hp : uPo (bs.getD s 0) = true <;> simp only [hp, if_true, if_false, Bool.false_eq_true, List.length_append, List.length_cons, List.length_nil, be_len, uAd_len]) ⟨hF76.1, hF76.2.1, hF76.2.2.1, hF76.2.2.2.1, hF76.2.2.2.2.1, hF76.2.2.2.2.2.1, hF76.2.2.2.2.2.2⟩) mm_X9_readsRest wd_473 rfl (hG 9 (by decide)) sh_9 rfl (by decide) rfl (Nat.le_of_ble_eq_true rfl) dX9_read_136 ?_
                  rintro _ _ (⟨hbe, rfl, rfl⟩ | ⟨hbe, rfl, hne, F85, pk86, rfl, h3f, h4f⟩)
                  · show TW G X (UF B (upd F74 9 (nI ((uA7 bs (bs.getD s 0) (bs.getD (s + 1) 0) s) - s))) ((if uPo (bs.getD s 0) then setN (setN (if uPo (bs.getD s 0) then ((be (ff (uT bs (uTF (bs.getD s 0)) (uA1 (bs.getD (s + 1) 0) s)) (uL bs (uTF (bs.getD s 0)) (uA1 (bs.getD (s + 1) 0) s))) 4 ++ [0, 0, (if uPo (bs.getD s 0) then 17 else bs.getD (uA2 (bs.getD s 0) (bs.getD (s + 1) 0) s) 0), (if uHL (bs.getD s 0) = 0 then bs.getD (uA2 (bs.getD s 0) (bs.getD (s + 1) 0) s + (if uPo (bs.getD s 0) then 0 else 1)) 0 else if uHL (bs.getD s 0) = 1 then 1 else if uHL (bs.getD s 0) = 2 then 64 else 255)]) ++ uAd K (uSrc (bs.getD (s + 1) 0)) 0 (uCx bs (bs.getD (s + 1) 0) s / 16) bs (uA4 (bs.getD s 0) (bs.getD (s + 1) 0) s) ++ uAd K (uGoal (bs.getD (s + 1) 0)) 1 (uCx bs (bs.getD (s + 1) 0) s % 16) bs (uA5 (bs.getD s 0) (bs.getD (s + 1) 0) s)) ++ (be (uPn (uFm bs (bs.getD s 0) (bs.getD (s + 1) 0) s - 240) (nb bs (uA6 (bs.getD s 0) (bs.getD (s + 1) 0) s + 1) (pfN (uFm bs (bs.getD s 0) (bs.getD (s + 1) 0) s - 240)))) 4 ++ (be 0 2 ++ be (nb bs (uA6 (bs.getD s 0) (bs.getD (s + 1) 0) s + 1 + pfN (uFm bs (bs.getD s 0) (bs.getD (s + 1) 0) s - 240)) 2) 2)) else ((be (ff (uT bs (uTF (bs.getD s 0)) (uA1 (bs.getD (s + 1) 0) s)) (uL bs (uTF (bs.getD s 0)) (uA1 (bs.getD (s + 1) 0) s))) 4 ++ [0, 0, (if uPo (bs.getD s 0) then 17 else bs.getD (uA2 (bs.getD s 0) (bs.getD (s + 1) 0) s) 0), (if uHL (bs.getD s 0) = 0 then bs.getD (uA2 (bs.getD s 0) (bs.getD (s + 1) 0) s + (if uPo (bs.getD s 0) then 0 else 1)) 0 else if uHL (bs.getD s 0) = 1 then 1 else if uHL (bs.getD s 0) = 2 then 64 else 255)]) ++ uAd K (uSrc (bs.getD (s + 1) 0)) 0 (uCx bs (bs.getD (s + 1) 0) s / 16) bs (uA4 (bs.getD s 0) (bs.getD (s + 1) 0) s) ++ uAd K (uGoal (bs.getD (s + 1) 0)) 1 (uCx bs (bs.getD (s + 1) 0) s % 16) bs (uA5 (bs.getD s 0) (bs.getD (s + 1) 0) s))) 4 (be (uBe bs s none) 2)) 44 (be (uBe bs s none) 2) else setN (if uPo (bs.getD s 0) then ((be (ff (uT bs (uTF (bs.getD s 0)) (uA1 (bs.getD (s + 1) 0) s)) (uL bs (uTF (bs.getD s 0)) (uA1 (bs.getD (s + 1) 0) s))) 4 ++ [0, 0, (if uPo (bs.getD s 0) then 17 else bs.getD (uA2 (bs.getD s 0) (bs.getD (s + 1) 0) s) 0), (if uHL (bs.getD s 0) = 0 then bs.getD (uA2 (bs.getD s 0) (bs.getD (s + 1) 0) s + (if uPo (bs.getD s 0) then 0 else 1)) 0 else if uHL (bs.getD s 0) = 1 then 1 else if uHL (bs.getD s 0) = 2 then 64 else 255)]) ++ uAd K (uSrc (bs.getD (s + 1) 0)) 0 (uCx bs (bs.getD (s + 1) 0) s / 16) bs (uA4 (bs.getD s 0) (bs.getD (s + 1) 0) s) ++ uAd K (uGoal (bs.getD (s + 1) 0)) 1 (uCx bs (bs.getD (s + 1) 0) s % 16) bs (uA5 (bs.getD s 0) (bs.getD (s + 1) 0) s)) ++ (be (uPn (uFm bs (bs.getD s 0) (bs.getD (s + 1) 0) s - 240) (nb bs (uA6 (bs.getD s 0) (bs.getD (s + 1) 0) s + 1) (pfN (uFm bs (bs.getD s 0) (bs.getD (s + 1) 0) s - 240)))) 4 ++ (be 0 2 ++ be (nb bs (uA6 (bs.getD s 0) (bs.getD (s + 1) 0) s + 1 + pfN (uFm bs (bs.getD s 0) (bs.getD (s + 1) 0) s - 240)) 2) 2)) else ((be (ff (uT bs (uTF (bs.getD s 0)) (uA1 (bs.getD (s + 1) 0) s)) (uL bs (uTF (bs.getD s 0)) (uA1 (bs.getD (s + 1) 0) s))) 4 ++ [0, 0, (if uPo (bs.getD s 0) then 17 else bs.getD (uA2 (bs.getD s 0) (bs.getD (s + 1) 0) s) 0), (if uHL (bs.getD s 0) = 0 then bs.getD (uA2 (bs.getD s 0) (bs.getD (s + 1) 0) s + (if uPo (bs.getD s 0) then 0 else 1)) 0 else if uHL (bs.getD s 0) = 1 then 1 else if uHL (bs.getD s 0) = 2 then 64 else 255)]) ++ uAd K (uSrc (bs.getD (s + 1) 0)) 0 (uCx bs (bs.getD (s + 1) 0) s / 16) bs (uA4 (bs.getD s 0) (bs.getD (s + 1) 0) s) ++ uAd K (uGoal (bs.getD (s + 1) 0)) 1 (uCx bs (bs.getD (s + 1) 0) s % 16) bs (uA5 (bs.getD s 0) (bs.getD (s + 1) 0) s))) 4 (be (uBe bs s none) 2)) ++ cutD bs (uA7 bs (bs.getD s 0) (bs.getD (s + 1) 0) s) (bs.length - uA7 bs (bs.getD s 0) (bs.getD (s + 1) 0) s))) [(4, .int (nI 1)), (0, .ref (tw_ad G 9)), (1, .ref (tw_ad G q)), (2, .int (nI s)), (3, .int ((-1)))] 139 [.int (bI true)]
                    refine tb_if_eq C dX9_read_139 (tgt := 146) (by decide) (fun c88 => ?_) (fun c88 => ?_)
                    · exact absurd c88 (by decide)
                    refine tw_iconst C dX9_read_142 (v := nI 1) (by decide) ?_
                    refine tw_goto C dX9_read_143 (tgt := 147) (by decide) ?_
                    exact tw_ireturn C Q dX9_read_147 rfl rfl rfl (Or.inl ⟨by rw [uF_0 hft0 hbe], rfl, upd F74 9 (nI ((uA7 bs (bs.getD s 0) (bs.getD (s + 1) 0) s) - s)), by by_cases hp : uPo (bs.getD s 0) = true <;> simp only [hp, if_true, if_false, Bool.false_eq_true] <;> rw [uPk, ← uHd_eq K bs s _ _ rfl] <;> simp only [hp, if_true, if_false, Bool.false_eq_true], ⟨hF76.1, hF76.2.1, hF76.2.2.1, hF76.2.2.2.1, hF76.2.2.2.2.1, hF76.2.2.2.2.2.1, hF76.2.2.2.2.2.2⟩, rfl⟩)
                  · show TW G X (UF B F85 pk86) [(4, .int (nI 1)), (0, .ref (tw_ad G 9)), (1, .ref (tw_ad G q)), (2, .int (nI s)), (3, .int ((-1)))] 139 [.int (bI false)]
                    have he7 := uF_7 (o := none) hft0 hbe
                    refine tb_if_eq C dX9_read_139 (tgt := 146) (by decide) (fun c89 => ?_) (fun c89 => ?_)
                    · skip
                      refine tw_iconst C dX9_read_146 (v := nI 0) (by decide) ?_
                      exact tw_ireturn C Q dX9_read_147 rfl rfl rfl (Or.inr ⟨by rw [he7]; exact fun h => absurd h (by show ¬ 7 = 0; decide), rfl, by rw [he7]; exact ⟨fun h => absurd h (by show ¬ 7 = 0; decide), _, _, rfl, h3f, h4f⟩⟩)
                    · exact absurd c89 (by decide)
                · show TW G X (UF B F81 pk75) [(0, .ref (tw_ad G 9)), (1, .ref (tw_ad G q)), (2, .int (nI s)), (3, .int ((-1)))] 108 [.int (bI false)]
                  have hz := hne79
                  have hz3 := h3_77
                  have hz4 := h4_78
                  refine tb_if_eq C dX9_read_108 (tgt := 115) (by decide) (fun c90 => ?_) (fun c90 => ?_)
                  · skip
                    refine tw_iconst C dX9_read_115 (v := nI 0) (by decide) ?_
                    refine tw_istore (L' := [(4, .int (nI 0)), (0, .ref (tw_ad G 9)), (1, .ref (tw_ad G q)), (2, .int (nI s)), (3, .int ((-1)))]) C N dX9_read_116 (i := 4) (by decide) rfl ?_
                    refine tw_aload_n C dX9_read_118 1 rfl ?_
                    refine tw_aload_n C dX9_read_119 1 rfl ?_
                    refine tw_getI (v := F81 2) (k := 2) C dX9_read_120 fc_X9 sh_9 (hG 9 (by decide)) rfl (by decide) wd_360 rfl ?_
                    refine tw_iload_n C dX9_read_123 3 rfl ?_
                    refine tw_isub C dX9_read_124 (v := (F81 2) - (nI s)) rfl ?_
                    refine tw_putI (k := 9) C dX9_read_125 fc_X9 sh_9 (hG 9 (by decide)) rfl (by decide) rfl wd_365 rfl rfl ?_
                    refine TW.sS (S' := UF B (upd F81 9 ((F81 2) - (nI s))) pk75) (UF_uI _ _ _ _ _) ?_
                    refine tw_iload C dX9_read_128 0 rfl ?_
                    refine tn_if_eq C dX9_read_130 (tgt := 146) (by decide) (by omega) (fun c91 => ?_) (fun c91 => ?_)
                    · skip
                      refine tw_iconst C dX9_read_146 (v := nI 0) (by decide) ?_
                      exact tw_ireturn C Q dX9_read_147 rfl rfl rfl (Or.inr ⟨by rw [uF_t hz]; exact hz, rfl, by rw [uF_t hz]; exact ⟨hz, _, _, rfl, hz3, hz4⟩⟩)
                    · exact absurd c91 (by decide)
                  · exact absurd c90 (by decide)
              · show TW G X (UF B F71 pk65) [(0, .ref (tw_ad G 9)), (1, .ref (tw_ad G q)), (2, .int (nI s)), (3, .int ((-1)))] 100 [.int (bI false)]
                have hft := uFt_a6 hu3 (show bs.length < uA6 (bs.getD s 0) (bs.getD (s + 1) 0) s by unfold uA6 uA5 uA4; have := hx70; first | omega | (unfold uA5 uA4 at this; omega) | (unfold uA4 at this; omega))
                have hz : (uFt K bs s).1 ≠ 0 := by rw [hft]; exact Nat.one_ne_zero
                have hz3 : F71 3 = nI (uFt K bs s).1 := by rw [hft]; exact h3_67
                have hz4 : F71 4 = nI (uFt K bs s).2 := by rw [hft]; exact h4_68
                refine tb_if_eq C dX9_read_100 (tgt := 115) (by decide) (fun c92 => ?_) (fun c92 => ?_)
                · skip
                  refine tw_iconst C dX9_read_115 (v := nI 0) (by decide) ?_
                  refine tw_istore (L' := [(4, .int (nI 0)), (0, .ref (tw_ad G 9)), (1, .ref (tw_ad G q)), (2, .int (nI s)), (3, .int ((-1)))]) C N dX9_read_116 (i := 4) (by decide) rfl ?_
                  refine tw_aload_n C dX9_read_118 1 rfl ?_
                  refine tw_aload_n C dX9_read_119 1 rfl ?_
                  refine tw_getI (v := F71 2) (k := 2) C dX9_read_120 fc_X9 sh_9 (hG 9 (by decide)) rfl (by decide) wd_360 rfl ?_
                  refine tw_iload_n C dX9_read_123 3 rfl ?_
                  refine tw_isub C dX9_read_124 (v := (F71 2) - (nI s)) rfl ?_
                  refine tw_putI (k := 9) C dX9_read_125 fc_X9 sh_9 (hG 9 (by decide)) rfl (by decide) rfl wd_365 rfl rfl ?_
                  refine TW.sS (S' := UF B (upd F71 9 ((F71 2) - (nI s))) pk65) (UF_uI _ _ _ _ _) ?_
                  refine tw_iload C dX9_read_128 0 rfl ?_
                  refine tn_if_eq C dX9_read_130 (tgt := 146) (by decide) (by omega) (fun c93 => ?_) (fun c93 => ?_)
                  · skip
                    refine tw_iconst C dX9_read_146 (v := nI 0) (by decide) ?_
                    exact tw_ireturn C Q dX9_read_147 rfl rfl rfl (Or.inr ⟨by rw [uF_t hz]; exact hz, rfl, by rw [uF_t hz]; exact ⟨hz, _, _, rfl, hz3, hz4⟩⟩)
                  · exact absurd c93 (by decide)
                · exact absurd c92 (by decide)
            · show TW G X (UF B F60 pk54) [(0, .ref (tw_ad G 9)), (1, .ref (tw_ad G q)), (2, .int (nI s)), (3, .int ((-1)))] 86 [.int (bI false)]
              have hft := uFt_a6 hu3 (show bs.length < uA6 (bs.getD s 0) (bs.getD (s + 1) 0) s by unfold uA6 uA5 uA4; have := hx59; first | omega | (unfold uA5 uA4 at this; omega) | (unfold uA4 at this; omega))
              have hz : (uFt K bs s).1 ≠ 0 := by rw [hft]; exact Nat.one_ne_zero
              have hz3 : F60 3 = nI (uFt K bs s).1 := by rw [hft]; exact h3_56
              have hz4 : F60 4 = nI (uFt K bs s).2 := by rw [hft]; exact h4_57
              refine tb_if_eq C dX9_read_86 (tgt := 115) (by decide) (fun c94 => ?_) (fun c94 => ?_)
              · skip
                refine tw_iconst C dX9_read_115 (v := nI 0) (by decide) ?_
                refine tw_istore (L' := [(4, .int (nI 0)), (0, .ref (tw_ad G 9)), (1, .ref (tw_ad G q)), (2, .int (nI s)), (3, .int ((-1)))]) C N dX9_read_116 (i := 4) (by decide) rfl ?_
                refine tw_aload_n C dX9_read_118 1 rfl ?_
                refine tw_aload_n C dX9_read_119 1 rfl ?_
                refine tw_getI (v := F60 2) (k := 2) C dX9_read_120 fc_X9 sh_9 (hG 9 (by decide)) rfl (by decide) wd_360 rfl ?_
                refine tw_iload_n C dX9_read_123 3 rfl ?_
                refine tw_isub C dX9_read_124 (v := (F60 2) - (nI s)) rfl ?_
                refine tw_putI (k := 9) C dX9_read_125 fc_X9 sh_9 (hG 9 (by decide)) rfl (by decide) rfl wd_365 rfl rfl ?_
                refine TW.sS (S' := UF B (upd F60 9 ((F60 2) - (nI s))) pk54) (UF_uI _ _ _ _ _) ?_
                refine tw_iload C dX9_read_128 0 rfl ?_
                refine tn_if_eq C dX9_read_130 (tgt := 146) (by decide) (by omega) (fun c95 => ?_) (fun c95 => ?_)
                · skip
                  refine tw_iconst C dX9_read_146 (v := nI 0) (by decide) ?_
                  exact tw_ireturn C Q dX9_read_147 rfl rfl rfl (Or.inr ⟨by rw [uF_t hz]; exact hz, rfl, by rw [uF_t hz]; exact ⟨hz, _, _, rfl, hz3, hz4⟩⟩)
                · exact absurd c95 (by decide)
              · exact absurd c94 (by decide)
          · show TW G X (UF B F49 pk43) [(0, .ref (tw_ad G 9)), (1, .ref (tw_ad G q)), (2, .int (nI s)), (3, .int ((-1)))] 72 [.int (bI false)]
            have hft := uFt_a6 hu3 (show bs.length < uA6 (bs.getD s 0) (bs.getD (s + 1) 0) s by unfold uA6 uA5 uA4; have := hx48; first | omega | (unfold uA5 uA4 at this; omega) | (unfold uA4 at this; omega))
            have hz : (uFt K bs s).1 ≠ 0 := by rw [hft]; exact Nat.one_ne_zero
            have hz3 : F49 3 = nI (uFt K bs s).1 := by rw [hft]; exact h3_45
            have hz4 : F49 4 = nI (uFt K bs s).2 := by rw [hft]; exact h4_46
            refine tb_if_eq C dX9_read_72 (tgt := 115) (by decide) (fun c96 => ?_) (fun c96 => ?_)
            · skip
              refine tw_iconst C dX9_read_115 (v := nI 0) (by decide) ?_
              refine tw_istore (L' := [(4, .int (nI 0)), (0, .ref (tw_ad G 9)), (1, .ref (tw_ad G q)), (2, .int (nI s)), (3, .int ((-1)))]) C N dX9_read_116 (i := 4) (by decide) rfl ?_
              refine tw_aload_n C dX9_read_118 1 rfl ?_
              refine tw_aload_n C dX9_read_119 1 rfl ?_
              refine tw_getI (v := F49 2) (k := 2) C dX9_read_120 fc_X9 sh_9 (hG 9 (by decide)) rfl (by decide) wd_360 rfl ?_
              refine tw_iload_n C dX9_read_123 3 rfl ?_
              refine tw_isub C dX9_read_124 (v := (F49 2) - (nI s)) rfl ?_
              refine tw_putI (k := 9) C dX9_read_125 fc_X9 sh_9 (hG 9 (by decide)) rfl (by decide) rfl wd_365 rfl rfl ?_
              refine TW.sS (S' := UF B (upd F49 9 ((F49 2) - (nI s))) pk43) (UF_uI _ _ _ _ _) ?_
              refine tw_iload C dX9_read_128 0 rfl ?_
              refine tn_if_eq C dX9_read_130 (tgt := 146) (by decide) (by omega) (fun c97 => ?_) (fun c97 => ?_)
              · skip
                refine tw_iconst C dX9_read_146 (v := nI 0) (by decide) ?_
                exact tw_ireturn C Q dX9_read_147 rfl rfl rfl (Or.inr ⟨by rw [uF_t hz]; exact hz, rfl, by rw [uF_t hz]; exact ⟨hz, _, _, rfl, hz3, hz4⟩⟩)
              · exact absurd c97 (by decide)
            · exact absurd c96 (by decide)
        · show TW G X (UF B F39 pk33) [(0, .ref (tw_ad G 9)), (1, .ref (tw_ad G q)), (2, .int (nI s)), (3, .int ((-1)))] 64 [.int (bI false)]
          have hft := uFt_a6 hu3 (show bs.length < uA6 (bs.getD s 0) (bs.getD (s + 1) 0) s by unfold uA6 uA5 uA4; have := hx38; first | omega | (unfold uA5 uA4 at this; omega) | (unfold uA4 at this; omega))
          have hz : (uFt K bs s).1 ≠ 0 := by rw [hft]; exact Nat.one_ne_zero
          have hz3 : F39 3 = nI (uFt K bs s).1 := by rw [hft]; exact h3_35
          have hz4 : F39 4 = nI (uFt K bs s).2 := by rw [hft]; exact h4_36
          refine tb_if_eq C dX9_read_64 (tgt := 115) (by decide) (fun c98 => ?_) (fun c98 => ?_)
          · skip
            refine tw_iconst C dX9_read_115 (v := nI 0) (by decide) ?_
            refine tw_istore (L' := [(4, .int (nI 0)), (0, .ref (tw_ad G 9)), (1, .ref (tw_ad G q)), (2, .int (nI s)), (3, .int ((-1)))]) C N dX9_read_116 (i := 4) (by decide) rfl ?_
            refine tw_aload_n C dX9_read_118 1 rfl ?_
            refine tw_aload_n C dX9_read_119 1 rfl ?_
            refine tw_getI (v := F39 2) (k := 2) C dX9_read_120 fc_X9 sh_9 (hG 9 (by decide)) rfl (by decide) wd_360 rfl ?_
            refine tw_iload_n C dX9_read_123 3 rfl ?_
            refine tw_isub C dX9_read_124 (v := (F39 2) - (nI s)) rfl ?_
            refine tw_putI (k := 9) C dX9_read_125 fc_X9 sh_9 (hG 9 (by decide)) rfl (by decide) rfl wd_365 rfl rfl ?_
            refine TW.sS (S' := UF B (upd F39 9 ((F39 2) - (nI s))) pk33) (UF_uI _ _ _ _ _) ?_
            refine tw_iload C dX9_read_128 0 rfl ?_
            refine tn_if_eq C dX9_read_130 (tgt := 146) (by decide) (by omega) (fun c99 => ?_) (fun c99 => ?_)
            · skip
              refine tw_iconst C dX9_read_146 (v := nI 0) (by decide) ?_
              exact tw_ireturn C Q dX9_read_147 rfl rfl rfl (Or.inr ⟨by rw [uF_t hz]; exact hz, rfl, by rw [uF_t hz]; exact ⟨hz, _, _, rfl, hz3, hz4⟩⟩)
            · exact absurd c99 (by decide)
          · exact absurd c98 (by decide)
      · show TW G X (UF B F29 pk23) [(0, .ref (tw_ad G 9)), (1, .ref (tw_ad G q)), (2, .int (nI s)), (3, .int ((-1)))] 56 [.int (bI false)]
        have hz := hne27
        have hz3 := h3_25
        have hz4 := h4_26
        refine tb_if_eq C dX9_read_56 (tgt := 115) (by decide) (fun c100 => ?_) (fun c100 => ?_)
        · skip
          refine tw_iconst C dX9_read_115 (v := nI 0) (by decide) ?_
          refine tw_istore (L' := [(4, .int (nI 0)), (0, .ref (tw_ad G 9)), (1, .ref (tw_ad G q)), (2, .int (nI s)), (3, .int ((-1)))]) C N dX9_read_116 (i := 4) (by decide) rfl ?_
          refine tw_aload_n C dX9_read_118 1 rfl ?_
          refine tw_aload_n C dX9_read_119 1 rfl ?_
          refine tw_getI (v := F29 2) (k := 2) C dX9_read_120 fc_X9 sh_9 (hG 9 (by decide)) rfl (by decide) wd_360 rfl ?_
          refine tw_iload_n C dX9_read_123 3 rfl ?_
          refine tw_isub C dX9_read_124 (v := (F29 2) - (nI s)) rfl ?_
          refine tw_putI (k := 9) C dX9_read_125 fc_X9 sh_9 (hG 9 (by decide)) rfl (by decide) rfl wd_365 rfl rfl ?_
          refine TW.sS (S' := UF B (upd F29 9 ((F29 2) - (nI s))) pk23) (UF_uI _ _ _ _ _) ?_
          refine tw_iload C dX9_read_128 0 rfl ?_
          refine tn_if_eq C dX9_read_130 (tgt := 146) (by decide) (by omega) (fun c101 => ?_) (fun c101 => ?_)
          · skip
            refine tw_iconst C dX9_read_146 (v := nI 0) (by decide) ?_
            exact tw_ireturn C Q dX9_read_147 rfl rfl rfl (Or.inr ⟨by rw [uF_t hz]; exact hz, rfl, by rw [uF_t hz]; exact ⟨hz, _, _, rfl, hz3, hz4⟩⟩)
          · exact absurd c101 (by decide)
        · exact absurd c100 (by decide)
    · show TW G X (UF B F19 pk13) [(0, .ref (tw_ad G 9)), (1, .ref (tw_ad G q)), (2, .int (nI s)), (3, .int ((-1)))] 48 [.int (bI false)]
      have hz := hne17
      have hz3 := h3_15
      have hz4 := h4_16
      refine tb_if_eq C dX9_read_48 (tgt := 115) (by decide) (fun c102 => ?_) (fun c102 => ?_)
      · skip
        refine tw_iconst C dX9_read_115 (v := nI 0) (by decide) ?_
        refine tw_istore (L' := [(4, .int (nI 0)), (0, .ref (tw_ad G 9)), (1, .ref (tw_ad G q)), (2, .int (nI s)), (3, .int ((-1)))]) C N dX9_read_116 (i := 4) (by decide) rfl ?_
        refine tw_aload_n C dX9_read_118 1 rfl ?_
        refine tw_aload_n C dX9_read_119 1 rfl ?_
        refine tw_getI (v := F19 2) (k := 2) C dX9_read_120 fc_X9 sh_9 (hG 9 (by decide)) rfl (by decide) wd_360 rfl ?_
        refine tw_iload_n C dX9_read_123 3 rfl ?_
        refine tw_isub C dX9_read_124 (v := (F19 2) - (nI s)) rfl ?_
        refine tw_putI (k := 9) C dX9_read_125 fc_X9 sh_9 (hG 9 (by decide)) rfl (by decide) rfl wd_365 rfl rfl ?_
        refine TW.sS (S' := UF B (upd F19 9 ((F19 2) - (nI s))) pk13) (UF_uI _ _ _ _ _) ?_
        refine tw_iload C dX9_read_128 0 rfl ?_
        refine tn_if_eq C dX9_read_130 (tgt := 146) (by decide) (by omega) (fun c103 => ?_) (fun c103 => ?_)
        · skip
          refine tw_iconst C dX9_read_146 (v := nI 0) (by decide) ?_
          exact tw_ireturn C Q dX9_read_147 rfl rfl rfl (Or.inr ⟨by rw [uF_t hz]; exact hz, rfl, by rw [uF_t hz]; exact ⟨hz, _, _, rfl, hz3, hz4⟩⟩)
        · exact absurd c103 (by decide)
      · exact absurd c102 (by decide)
  · show TW G X (UF B F9 pk3) [(0, .ref (tw_ad G 9)), (1, .ref (tw_ad G q)), (2, .int (nI s)), (3, .int ((-1)))] 40 [.int (bI false)]
    have hz := hne7
    have hz3 := h3_5
    have hz4 := h4_6
    refine tb_if_eq C dX9_read_40 (tgt := 115) (by decide) (fun c104 => ?_) (fun c104 => ?_)
    · skip
      refine tw_iconst C dX9_read_115 (v := nI 0) (by decide) ?_
      refine tw_istore (L' := [(4, .int (nI 0)), (0, .ref (tw_ad G 9)), (1, .ref (tw_ad G q)), (2, .int (nI s)), (3, .int ((-1)))]) C N dX9_read_116 (i := 4) (by decide) rfl ?_
      refine tw_aload_n C dX9_read_118 1 rfl ?_
      refine tw_aload_n C dX9_read_119 1 rfl ?_
      refine tw_getI (v := F9 2) (k := 2) C dX9_read_120 fc_X9 sh_9 (hG 9 (by decide)) rfl (by decide) wd_360 rfl ?_
      refine tw_iload_n C dX9_read_123 3 rfl ?_
      refine tw_isub C dX9_read_124 (v := (F9 2) - (nI s)) rfl ?_
      refine tw_putI (k := 9) C dX9_read_125 fc_X9 sh_9 (hG 9 (by decide)) rfl (by decide) rfl wd_365 rfl rfl ?_
      refine TW.sS (S' := UF B (upd F9 9 ((F9 2) - (nI s))) pk3) (UF_uI _ _ _ _ _) ?_
      refine tw_iload C dX9_read_128 0 rfl ?_
      refine tn_if_eq C dX9_read_130 (tgt := 146) (by decide) (by omega) (fun c105 => ?_) (fun c105 => ?_)
      · skip
        refine tw_iconst C dX9_read_146 (v := nI 0) (by decide) ?_
        exact tw_ireturn C Q dX9_read_147 rfl rfl rfl (Or.inr ⟨by rw [uF_t hz]; exact hz, rfl, by rw [uF_t hz]; exact ⟨hz, _, _, rfl, hz3, hz4⟩⟩)
      · exact absurd c105 (by decide)
    · exact absurd c104 (by decide)
set_option maxHeartbeats 2000000 in
theorem c_X9_read1 {G : tw_G} (hG : tw_cG G) {B : tw_S} {F : Nat → Int32} {pk : List Nat} {q : Nat} (hq : tw_isRow q = true) (hq10 : q ≠ 10) {bs : List Nat} (hbs : tw_R B q = bs) (hby : ∀ x ∈ bs, x < 256) (hlen : bs.length ≤ 640) {K : kN} (hK : KN B K) {m : Nat} (hm : m < 2 ^ 31) (hl : bs.length ≤ 120) {s : Nat} (hs : s < 2 ^ 20) (hs2 : s ≤ bs.length) : tw_M G yX9_read cX9_read 5 (some .boolean) 4 90 [.ref (tw_ad G 9), .ref (tw_ad G q), .int (nI s), .int (nI m)] (UF B F pk) ri_I (fun v S' => ((uF K bs s (some m)).1 = 0 ∧ v = bI true ∧ ∃ F', S' = UF B F' (uPk K bs s (some m)) ∧ UK F' (uA7 bs (bs.getD s 0) (bs.getD (s + 1) 0) s) 0 0 (nI (bs.getD s 0)) (nI (bs.getD (s + 1) 0)) (nI (uCx bs (bs.getD (s + 1) 0) s)) (if uPo (bs.getD s 0) then nI (uFm bs (bs.getD s 0) (bs.getD (s + 1) 0) s - 240) else -2) ∧ F' 9 = nI (uA7 bs (bs.getD s 0) (bs.getD (s + 1) 0) s - s)) ∨ ((uF K bs s (some m)).1 ≠ 0 ∧ v = bI false ∧ uFail B S' (uF K bs s (some m)))) := by
  refine tw_M.of (L := [(0, .ref (tw_ad G 9)), (1, .ref (tw_ad G q)), (2, .int (nI s)), (3, .int (nI m))]) (by decide) (Nat.le_of_ble_eq_true rfl) rfl (fun X C N Q => ?_)
  have C : tw_C G X cX9_read RX9 := C
  have hb0 := getD_in hby s
  have hb1 := getD_in hby (s + 1)
  have hsr : uSrc (bs.getD (s + 1) 0) < 8 := Nat.mod_lt _ (by decide)
  have hg : uGoal (bs.getD (s + 1) 0) < 16 := Nat.mod_lt _ (by decide)
  have hcx := uCx_lt hby (bs.getD (s + 1) 0) s
  refine tw_aload_n C dX9_read_0 0 rfl ?_
  refine tw_iload_n C dX9_read_1 2 rfl ?_
  refine tw_putI (k := 2) C dX9_read_2 fc_X9 sh_9 (hG 9 (by decide)) rfl (by decide) rfl wd_360 rfl rfl ?_
  refine TW.sS (S' := UF B (upd F 2 (nI s)) pk) (UF_uI _ _ _ _ _) ?_
  refine tw_aload_n C dX9_read_5 0 rfl ?_
  refine tw_iconst C dX9_read_6 (v := nI 0) (by decide) ?_
  refine tw_putI (k := 3) C dX9_read_7 fc_X9 sh_9 (hG 9 (by decide)) rfl (by decide) rfl wd_361 rfl rfl ?_
  refine TW.sS (S' := UF B (upd (upd F 2 (nI s)) 3 (nI 0)) pk) (UF_uI _ _ _ _ _) ?_
  refine tw_aload_n C dX9_read_10 0 rfl ?_
  refine tw_iconst C dX9_read_11 (v := nI 0) (by decide) ?_
  refine tw_putI (k := 4) C dX9_read_12 fc_X9 sh_9 (hG 9 (by decide)) rfl (by decide) rfl wd_362 rfl rfl ?_
  refine TW.sS (S' := UF B (upd (upd (upd F 2 (nI s)) 3 (nI 0)) 4 (nI 0)) pk) (UF_uI _ _ _ _ _) ?_
  refine tw_aload_n C dX9_read_15 0 rfl ?_
  refine tw_iconst C dX9_read_16 (v := nI 0) (by decide) ?_
  refine tw_putI (k := 7) C dX9_read_17 fc_X9 sh_9 (hG 9 (by decide)) rfl (by decide) rfl wd_363 rfl rfl ?_
  refine TW.sS (S' := UF B (upd (upd (upd (upd F 2 (nI s)) 3 (nI 0)) 4 (nI 0)) 7 (nI 0)) pk) (UF_uI _ _ _ _ _) ?_
  refine tw_aload_n C dX9_read_20 0 rfl ?_
  refine tw_bipush C dX9_read_21 (v := (-2)) (by decide) ?_
  refine tw_putI (k := 8) C dX9_read_23 fc_X9 sh_9 (hG 9 (by decide)) rfl (by decide) rfl wd_364 rfl rfl ?_
  refine TW.sS (S' := UF B (upd (upd (upd (upd (upd F 2 (nI s)) 3 (nI 0)) 4 (nI 0)) 7 (nI 0)) 8 ((-2))) pk) (UF_uI _ _ _ _ _) ?_
  refine tw_aload_n C dX9_read_26 0 rfl ?_
  refine tw_getR (q := 10) (k := 1) C dX9_read_27 fc_X9 sh_9 (hG 9 (by decide)) rfl (by decide) wd_64 ?_
  refine tw_bipush C dX9_read_30 (v := nI 40) (by decide) ?_
  refine tw_callV (As := [.int (nI 40)]) (rest := []) C N (c_X7_becomeZeros hG (S := UF B (upd (upd (upd (upd (upd F 2 (nI s)) 3 (nI 0)) 4 (nI 0)) 7 (nI 0)) 8 ((-2))) pk) tw_row10 (i := 40) (by omega)) mm_X7_becomeZeros wd_366 rfl (hG 10 (by decide)) sh_10 rfl (by decide) rfl (Nat.le_of_ble_eq_true rfl) dX9_read_32 ?_
  rintro _ _ rfl
  show TW G X (tw_uR (UF B (upd (upd (upd (upd (upd F 2 (nI s)) 3 (nI 0)) 4 (nI 0)) 7 (nI 0)) 8 ((-2))) pk) 10 ((List.replicate 40 0).take (tw_cap 10))) [(0, .ref (tw_ad G 9)), (1, .ref (tw_ad G q)), (2, .int (nI s)), (3, .int (nI m))] 35 []
  refine TW.sS (S' := UF B (upd (upd (upd (upd (upd F 2 (nI s)) 3 (nI 0)) 4 (nI 0)) 7 (nI 0)) 8 ((-2))) ((List.replicate 40 0).take (tw_cap 10))) (UF_uR _ _ _ _) ?_
  refine TW.sS (S' := UF B (upd (upd (upd (upd (upd F 2 (nI s)) 3 (nI 0)) 4 (nI 0)) 7 (nI 0)) 8 ((-2))) (List.replicate 40 0)) (congrArg (UF B _) (List.take_of_length_le (by rw [List.length_replicate]; decide))) ?_
  refine tw_aload_n C dX9_read_35 0 rfl ?_
  refine tw_aload_n C dX9_read_36 1 rfl ?_
  refine tw_callV (As := [.ref (tw_ad G q)]) (rest := []) C N (c_X9_readsForm hG (B := B) (F := upd (upd (upd (upd (upd F 2 (nI s)) 3 (nI 0)) 4 (nI 0)) 7 (nI 0)) 8 ((-2))) (pk := List.replicate 40 0) hq hq10 hbs hby hlen (K := K) (s := s) (by omega) hs2 ⟨rfl, rfl, rfl, rfl, rfl, rfl, rfl⟩) mm_X9_readsForm wd_370 rfl (hG 9 (by decide)) sh_9 rfl (by decide) rfl (Nat.le_of_ble_eq_true rfl) dX9_read_37 ?_
  rintro _ _ (⟨hx8, rfl, F2, rfl, hF4⟩ | ⟨rfl, hne7, F9, pk3, rfl, h3_5, h4_6⟩)
  · show TW G X (UF B F2 (List.replicate 40 0)) [(0, .ref (tw_ad G 9)), (1, .ref (tw_ad G q)), (2, .int (nI s)), (3, .int (nI m))] 40 [.int (bI true)]
    have hu1 := hx8
    refine tb_if_eq C dX9_read_40 (tgt := 115) (by decide) (fun c11 => ?_) (fun c11 => ?_)
    · exact absurd c11 (by decide)
    refine tw_aload_n C dX9_read_43 0 rfl ?_
    refine tw_aload_n C dX9_read_44 1 rfl ?_
    refine tw_callV (As := [.ref (tw_ad G q)]) (rest := []) C N (c_X9_readsContexts hG (B := B) (F := F2) (pk := List.replicate 40 0) hq hq10 hbs hby hlen hK (s := s) (by omega) hu1 hF4) mm_X9_readsContexts wd_394 rfl (hG 9 (by decide)) sh_9 rfl (by decide) rfl (Nat.le_of_ble_eq_true rfl) dX9_read_45 ?_
    rintro _ _ (⟨hx18, rfl, F12, rfl, hF14⟩ | ⟨rfl, hne17, F19, pk13, rfl, h3_15, h4_16⟩)
    · show TW G X (UF B F12 (List.replicate 40 0)) [(0, .ref (tw_ad G 9)), (1, .ref (tw_ad G q)), (2, .int (nI s)), (3, .int (nI m))] 48 [.int (bI true)]
      have hu2 := hx18
      refine tb_if_eq C dX9_read_48 (tgt := 115) (by decide) (fun c21 => ?_) (fun c21 => ?_)
      · exact absurd c21 (by decide)
      refine tw_aload_n C dX9_read_51 0 rfl ?_
      refine tw_aload_n C dX9_read_52 1 rfl ?_
      refine tw_callV (As := [.ref (tw_ad G q)]) (rest := []) C N (c_X9_readsTraffic hG (B := B) (F := F12) (pk := List.replicate 40 0) hq hq10 hbs hby hlen (K := K) (s := s) (by omega) hu2 hF14) mm_X9_readsTraffic wd_404 rfl (hG 9 (by decide)) sh_9 rfl (by decide) rfl (Nat.le_of_ble_eq_true rfl) dX9_read_53 ?_
      rintro _ _ (⟨hx28, rfl, F22, rfl, hF24⟩ | ⟨rfl, hne27, F29, pk23, rfl, h3_25, h4_26⟩)
      · show TW G X (UF B F22 (setN (List.replicate 40 0) 0 (be (ff (uT bs (uTF (bs.getD s 0)) (uA1 (bs.getD (s + 1) 0) s)) (uL bs (uTF (bs.getD s 0)) (uA1 (bs.getD (s + 1) 0) s))) 4))) [(0, .ref (tw_ad G 9)), (1, .ref (tw_ad G q)), (2, .int (nI s)), (3, .int (nI m))] 56 [.int (bI true)]
        have hu3 := hx28
        have ha2 := hu3.2.1
        refine tb_if_eq C dX9_read_56 (tgt := 115) (by decide) (fun c31 => ?_) (fun c31 => ?_)
        · exact absurd c31 (by decide)
        refine tw_aload_n C dX9_read_59 0 rfl ?_
        refine tw_aload_n C dX9_read_60 1 rfl ?_
        refine tw_callV (As := [.ref (tw_ad G q)]) (rest := []) C N (c_X9_readsKind hG (B := B) (F := F22) (pk := setN (List.replicate 40 0) 0 (be (ff (uT bs (uTF (bs.getD s 0)) (uA1 (bs.getD (s + 1) 0) s)) (uL bs (uTF (bs.getD s 0)) (uA1 (bs.getD (s + 1) 0) s))) 4)) hq hq10 hbs hby hlen (a := uA2 (bs.getD s 0) (bs.getD (s + 1) 0) s) ha2 hb0 hF24) mm_X9_readsKind wd_423 rfl (hG 9 (by decide)) sh_9 rfl (by decide) rfl (Nat.le_of_ble_eq_true rfl) dX9_read_61 ?_
        rintro _ _ (⟨hx38, rfl, F32, rfl, hF34⟩ | ⟨hx38, rfl, hne37, F39, pk33, rfl, h3_35, h4_36⟩)
        · show TW G X (UF B F32 ((setN (List.replicate 40 0) 0 (be (ff (uT bs (uTF (bs.getD s 0)) (uA1 (bs.getD (s + 1) 0) s)) (uL bs (uTF (bs.getD s 0)) (uA1 (bs.getD (s + 1) 0) s))) 4)).set 6 (if uPo (bs.getD s 0) then 17 else bs.getD (uA2 (bs.getD s 0) (bs.getD (s + 1) 0) s) 0))) [(0, .ref (tw_ad G 9)), (1, .ref (tw_ad G q)), (2, .int (nI s)), (3, .int (nI m))] 64 [.int (bI true)]
          have ha3 := hx38
          refine tb_if_eq C dX9_read_64 (tgt := 115) (by decide) (fun c41 => ?_) (fun c41 => ?_)
          · exact absurd c41 (by decide)
          refine tw_aload_n C dX9_read_67 0 rfl ?_
          refine tw_aload_n C dX9_read_68 1 rfl ?_
          refine tw_callV (As := [.ref (tw_ad G q)]) (rest := []) C N (c_X9_readsHops hG (B := B) (F := F32) (pk := (setN (List.replicate 40 0) 0 (be (ff (uT bs (uTF (bs.getD s 0)) (uA1 (bs.getD (s + 1) 0) s)) (uL bs (uTF (bs.getD s 0)) (uA1 (bs.getD (s + 1) 0) s))) 4)).set 6 (if uPo (bs.getD s 0) then 17 else bs.getD (uA2 (bs.getD s 0) (bs.getD (s + 1) 0) s) 0)) hq hq10 hbs hby hlen (a := (uA2 (bs.getD s 0) (bs.getD (s + 1) 0) s + (if uPo (bs.getD s 0) then 0 else 1))) ha3 hb0 hF34) mm_X9_readsHops wd_432 rfl (hG 9 (by decide)) sh_9 rfl (by decide) rfl (Nat.le_of_ble_eq_true rfl) dX9_read_69 ?_
          rintro _ _ (⟨hx48, rfl, F42, rfl, hF44⟩ | ⟨hx48, rfl, hne47, F49, pk43, rfl, h3_45, h4_46⟩)
          · show TW G X (UF B F42 (((setN (List.replicate 40 0) 0 (be (ff (uT bs (uTF (bs.getD s 0)) (uA1 (bs.getD (s + 1) 0) s)) (uL bs (uTF (bs.getD s 0)) (uA1 (bs.getD (s + 1) 0) s))) 4)).set 6 (if uPo (bs.getD s 0) then 17 else bs.getD (uA2 (bs.getD s 0) (bs.getD (s + 1) 0) s) 0)).set 7 (if uHL (bs.getD s 0) = 0 then bs.getD (uA2 (bs.getD s 0) (bs.getD (s + 1) 0) s + (if uPo (bs.getD s 0) then 0 else 1)) 0 else if uHL (bs.getD s 0) = 1 then 1 else if uHL (bs.getD s 0) = 2 then 64 else 255))) [(0, .ref (tw_ad G 9)), (1, .ref (tw_ad G q)), (2, .int (nI s)), (3, .int (nI m))] 72 [.int (bI true)]
            have ha4 : uA4 (bs.getD s 0) (bs.getD (s + 1) 0) s ≤ bs.length := hx48
            refine tb_if_eq C dX9_read_72 (tgt := 115) (by decide) (fun c51 => ?_) (fun c51 => ?_)
            · exact absurd c51 (by decide)
            refine TW.sS (S' := UF B F42 ((be (ff (uT bs (uTF (bs.getD s 0)) (uA1 (bs.getD (s + 1) 0) s)) (uL bs (uTF (bs.getD s 0)) (uA1 (bs.getD (s + 1) 0) s))) 4 ++ [0, 0, (if uPo (bs.getD s 0) then 17 else bs.getD (uA2 (bs.getD s 0) (bs.getD (s + 1) 0) s) 0), (if uHL (bs.getD s 0) = 0 then bs.getD (uA2 (bs.getD s 0) (bs.getD (s + 1) 0) s + (if uPo (bs.getD s 0) then 0 else 1)) 0 else if uHL (bs.getD s 0) = 1 then 1 else if uHL (bs.getD s 0) = 2 then 64 else 255)]) ++ List.replicate (16 + 16) 0)) (congrArg (UF B _) (rep40 _ _ _)) ?_
            refine tw_aload_n C dX9_read_75 0 rfl ?_
            refine tw_aload_n C dX9_read_76 1 rfl ?_
            refine tw_aload_n C dX9_read_77 0 rfl ?_
            refine tw_callV (As := []) (rest := [.ref (tw_ad G q), .ref (tw_ad G 9)]) C N (c_X9_source hG (B := B) (F := F42) (pk := (be (ff (uT bs (uTF (bs.getD s 0)) (uA1 (bs.getD (s + 1) 0) s)) (uL bs (uTF (bs.getD s 0)) (uA1 (bs.getD (s + 1) 0) s))) 4 ++ [0, 0, (if uPo (bs.getD s 0) then 17 else bs.getD (uA2 (bs.getD s 0) (bs.getD (s + 1) 0) s) 0), (if uHL (bs.getD s 0) = 0 then bs.getD (uA2 (bs.getD s 0) (bs.getD (s + 1) 0) s + (if uPo (bs.getD s 0) then 0 else 1)) 0 else if uHL (bs.getD s 0) = 1 then 1 else if uHL (bs.getD s 0) = 2 then 64 else 255)]) ++ List.replicate (16 + 16) 0) (b1 := (bs.getD (s + 1) 0)) hF44.2.2.2.2.1 (by assumption)) mm_X9_source wd_398 rfl (hG 9 (by decide)) sh_9 rfl (by decide) rfl (Nat.le_of_ble_eq_true rfl) dX9_read_78 ?_
            rintro _ _ ⟨rfl, rfl⟩
            show TW G X (UF B F42 ((be (ff (uT bs (uTF (bs.getD s 0)) (uA1 (bs.getD (s + 1) 0) s)) (uL bs (uTF (bs.getD s 0)) (uA1 (bs.getD (s + 1) 0) s))) 4 ++ [0, 0, (if uPo (bs.getD s 0) then 17 else bs.getD (uA2 (bs.getD s 0) (bs.getD (s + 1) 0) s) 0), (if uHL (bs.getD s 0) = 0 then bs.getD (uA2 (bs.getD s 0) (bs.getD (s + 1) 0) s + (if uPo (bs.getD s 0) then 0 else 1)) 0 else if uHL (bs.getD s 0) = 1 then 1 else if uHL (bs.getD s 0) = 2 then 64 else 255)]) ++ List.replicate (16 + 16) 0)) [(0, .ref (tw_ad G 9)), (1, .ref (tw_ad G q)), (2, .int (nI s)), (3, .int (nI m))] 81 [.int (nI (uSrc ((bs.getD (s + 1) 0)))), .ref (tw_ad G q), .ref (tw_ad G 9)]
            refine tw_bipush C dX9_read_81 (v := nI 8) (by decide) ?_
            refine tw_callV (As := [.ref (tw_ad G q), .int (nI (uSrc ((bs.getD (s + 1) 0)))), .int (nI 8)]) (rest := []) C N (c_X9_readsAddress0 hG (B := B) (F := F42) hq hq10 hbs hby hlen hK (A := (be (ff (uT bs (uTF (bs.getD s 0)) (uA1 (bs.getD (s + 1) 0) s)) (uL bs (uTF (bs.getD s 0)) (uA1 (bs.getD (s + 1) 0) s))) 4 ++ [0, 0, (if uPo (bs.getD s 0) then 17 else bs.getD (uA2 (bs.getD s 0) (bs.getD (s + 1) 0) s) 0), (if uHL (bs.getD s 0) = 0 then bs.getD (uA2 (bs.getD s 0) (bs.getD (s + 1) 0) s + (if uPo (bs.getD s 0) then 0 else 1)) 0 else if uHL (bs.getD s 0) = 1 then 1 else if uHL (bs.getD s 0) = 2 then 64 else 255)])) (k := 16) (a := uA4 (bs.getD s 0) (bs.getD (s + 1) 0) s) (m := uSrc (bs.getD (s + 1) 0)) (cx := uCx bs (bs.getD (s + 1) 0) s) (by simp [be_len]) ha4 (by omega) hcx hF44) mm_X9_readsAddress wd_436 rfl (hG 9 (by decide)) sh_9 rfl (by decide) rfl (Nat.le_of_ble_eq_true rfl) dX9_read_83 ?_
            rintro _ _ (⟨hx59, rfl, F53, rfl, hF55⟩ | ⟨hx59, rfl, hne58, F60, pk54, rfl, h3_56, h4_57⟩)
            · show TW G X (UF B F53 ((be (ff (uT bs (uTF (bs.getD s 0)) (uA1 (bs.getD (s + 1) 0) s)) (uL bs (uTF (bs.getD s 0)) (uA1 (bs.getD (s + 1) 0) s))) 4 ++ [0, 0, (if uPo (bs.getD s 0) then 17 else bs.getD (uA2 (bs.getD s 0) (bs.getD (s + 1) 0) s) 0), (if uHL (bs.getD s 0) = 0 then bs.getD (uA2 (bs.getD s 0) (bs.getD (s + 1) 0) s + (if uPo (bs.getD s 0) then 0 else 1)) 0 else if uHL (bs.getD s 0) = 1 then 1 else if uHL (bs.getD s 0) = 2 then 64 else 255)]) ++ uAd K (uSrc (bs.getD (s + 1) 0)) 0 (uCx bs (bs.getD (s + 1) 0) s / 16) bs (uA4 (bs.getD s 0) (bs.getD (s + 1) 0) s) ++ List.replicate 16 0)) [(0, .ref (tw_ad G 9)), (1, .ref (tw_ad G q)), (2, .int (nI s)), (3, .int (nI m))] 86 [.int (bI true)]
              have ha5 : uA5 (bs.getD s 0) (bs.getD (s + 1) 0) s ≤ bs.length := hx59
              refine tb_if_eq C dX9_read_86 (tgt := 115) (by decide) (fun c62 => ?_) (fun c62 => ?_)
              · exact absurd c62 (by decide)
              refine TW.sS (S' := UF B F53 ((be (ff (uT bs (uTF (bs.getD s 0)) (uA1 (bs.getD (s + 1) 0) s)) (uL bs (uTF (bs.getD s 0)) (uA1 (bs.getD (s + 1) 0) s))) 4 ++ [0, 0, (if uPo (bs.getD s 0) then 17 else bs.getD (uA2 (bs.getD s 0) (bs.getD (s + 1) 0) s) 0), (if uHL (bs.getD s 0) = 0 then bs.getD (uA2 (bs.getD s 0) (bs.getD (s + 1) 0) s + (if uPo (bs.getD s 0) then 0 else 1)) 0 else if uHL (bs.getD s 0) = 1 then 1 else if uHL (bs.getD s 0) = 2 then 64 else 255)]) ++ uAd K (uSrc (bs.getD (s + 1) 0)) 0 (uCx bs (bs.getD (s + 1) 0) s / 16) bs (uA4 (bs.getD s 0) (bs.getD (s + 1) 0) s) ++ List.replicate (16 + 0) 0)) rfl ?_
              refine tw_aload_n C dX9_read_89 0 rfl ?_
              have hgo := hu1.2.2
              refine tw_aload_n C dX9_read_90 1 rfl ?_
              refine tw_aload_n C dX9_read_91 0 rfl ?_
              refine tw_callV (As := []) (rest := [.ref (tw_ad G q), .ref (tw_ad G 9)]) C N (c_X9_goal hG (B := B) (F := F53) (pk := (be (ff (uT bs (uTF (bs.getD s 0)) (uA1 (bs.getD (s + 1) 0) s)) (uL bs (uTF (bs.getD s 0)) (uA1 (bs.getD (s + 1) 0) s))) 4 ++ [0, 0, (if uPo (bs.getD s 0) then 17 else bs.getD (uA2 (bs.getD s 0) (bs.getD (s + 1) 0) s) 0), (if uHL (bs.getD s 0) = 0 then bs.getD (uA2 (bs.getD s 0) (bs.getD (s + 1) 0) s + (if uPo (bs.getD s 0) then 0 else 1)) 0 else if uHL (bs.getD s 0) = 1 then 1 else if uHL (bs.getD s 0) = 2 then 64 else 255)]) ++ uAd K (uSrc (bs.getD (s + 1) 0)) 0 (uCx bs (bs.getD (s + 1) 0) s / 16) bs (uA4 (bs.getD s 0) (bs.getD (s + 1) 0) s) ++ List.replicate (16 + 0) 0) (b1 := (bs.getD (s + 1) 0)) hF55.2.2.2.2.1 (by assumption)) mm_X9_goal wd_390 rfl (hG 9 (by decide)) sh_9 rfl (by decide) rfl (Nat.le_of_ble_eq_true rfl) dX9_read_92 ?_
              rintro _ _ ⟨rfl, rfl⟩
              show TW G X (UF B F53 ((be (ff (uT bs (uTF (bs.getD s 0)) (uA1 (bs.getD (s + 1) 0) s)) (uL bs (uTF (bs.getD s 0)) (uA1 (bs.getD (s + 1) 0) s))) 4 ++ [0, 0, (if uPo (bs.getD s 0) then 17 else bs.getD (uA2 (bs.getD s 0) (bs.getD (s + 1) 0) s) 0), (if uHL (bs.getD s 0) = 0 then bs.getD (uA2 (bs.getD s 0) (bs.getD (s + 1) 0) s + (if uPo (bs.getD s 0) then 0 else 1)) 0 else if uHL (bs.getD s 0) = 1 then 1 else if uHL (bs.getD s 0) = 2 then 64 else 255)]) ++ uAd K (uSrc (bs.getD (s + 1) 0)) 0 (uCx bs (bs.getD (s + 1) 0) s / 16) bs (uA4 (bs.getD s 0) (bs.getD (s + 1) 0) s) ++ List.replicate (16 + 0) 0)) [(0, .ref (tw_ad G 9)), (1, .ref (tw_ad G q)), (2, .int (nI s)), (3, .int (nI m))] 95 [.int (nI (uGoal ((bs.getD (s + 1) 0)))), .ref (tw_ad G q), .ref (tw_ad G 9)]
              refine tw_bipush C dX9_read_95 (v := nI 24) (by decide) ?_
              refine tw_callV (As := [.ref (tw_ad G q), .int (nI (uGoal ((bs.getD (s + 1) 0)))), .int (nI 24)]) (rest := []) C N (c_X9_readsAddress1 hG (B := B) (F := F53) hq hq10 hbs hby hlen hK (A := (be (ff (uT bs (uTF (bs.getD s 0)) (uA1 (bs.getD (s + 1) 0) s)) (uL bs (uTF (bs.getD s 0)) (uA1 (bs.getD (s + 1) 0) s))) 4 ++ [0, 0, (if uPo (bs.getD s 0) then 17 else bs.getD (uA2 (bs.getD s 0) (bs.getD (s + 1) 0) s) 0), (if uHL (bs.getD s 0) = 0 then bs.getD (uA2 (bs.getD s 0) (bs.getD (s + 1) 0) s + (if uPo (bs.getD s 0) then 0 else 1)) 0 else if uHL (bs.getD s 0) = 1 then 1 else if uHL (bs.getD s 0) = 2 then 64 else 255)]) ++ uAd K (uSrc (bs.getD (s + 1) 0)) 0 (uCx bs (bs.getD (s + 1) 0) s / 16) bs (uA4 (bs.getD s 0) (bs.getD (s + 1) 0) s)) (k := 0) (a := uA5 (bs.getD s 0) (bs.getD (s + 1) 0) s) (m := uGoal (bs.getD (s + 1) 0)) (cx := uCx bs (bs.getD (s + 1) 0) s) (by simp [be_len, uAd_len]) ha5 (by omega) hcx hF55) mm_X9_readsAddress wd_436 rfl (hG 9 (by decide)) sh_9 rfl (by decide) rfl (Nat.le_of_ble_eq_true rfl) dX9_read_97 ?_
              rintro _ _ (⟨hx70, rfl, F64, rfl, hF66⟩ | ⟨hx70, rfl, hne69, F71, pk65, rfl, h3_67, h4_68⟩)
              · show TW G X (UF B F64 ((be (ff (uT bs (uTF (bs.getD s 0)) (uA1 (bs.getD (s + 1) 0) s)) (uL bs (uTF (bs.getD s 0)) (uA1 (bs.getD (s + 1) 0) s))) 4 ++ [0, 0, (if uPo (bs.getD s 0) then 17 else bs.getD (uA2 (bs.getD s 0) (bs.getD (s + 1) 0) s) 0), (if uHL (bs.getD s 0) = 0 then bs.getD (uA2 (bs.getD s 0) (bs.getD (s + 1) 0) s + (if uPo (bs.getD s 0) then 0 else 1)) 0 else if uHL (bs.getD s 0) = 1 then 1 else if uHL (bs.getD s 0) = 2 then 64 else 255)]) ++ uAd K (uSrc (bs.getD (s + 1) 0)) 0 (uCx bs (bs.getD (s + 1) 0) s / 16) bs (uA4 (bs.getD s 0) (bs.getD (s + 1) 0) s) ++ uAd K (uGoal (bs.getD (s + 1) 0)) 1 (uCx bs (bs.getD (s + 1) 0) s % 16) bs (uA5 (bs.getD s 0) (bs.getD (s + 1) 0) s) ++ List.replicate 0 0)) [(0, .ref (tw_ad G 9)), (1, .ref (tw_ad G q)), (2, .int (nI s)), (3, .int (nI m))] 100 [.int (bI true)]
                have ha6 : uA6 (bs.getD s 0) (bs.getD (s + 1) 0) s ≤ bs.length := hx70
                refine tb_if_eq C dX9_read_100 (tgt := 115) (by decide) (fun c73 => ?_) (fun c73 => ?_)
                · exact absurd c73 (by decide)
                refine TW.sS (S' := UF B F64 ((be (ff (uT bs (uTF (bs.getD s 0)) (uA1 (bs.getD (s + 1) 0) s)) (uL bs (uTF (bs.getD s 0)) (uA1 (bs.getD (s + 1) 0) s))) 4 ++ [0, 0, (if uPo (bs.getD s 0) then 17 else bs.getD (uA2 (bs.getD s 0) (bs.getD (s + 1) 0) s) 0), (if uHL (bs.getD s 0) = 0 then bs.getD (uA2 (bs.getD s 0) (bs.getD (s + 1) 0) s + (if uPo (bs.getD s 0) then 0 else 1)) 0 else if uHL (bs.getD s 0) = 1 then 1 else if uHL (bs.getD s 0) = 2 then 64 else 255)]) ++ uAd K (uSrc (bs.getD (s + 1) 0)) 0 (uCx bs (bs.getD (s + 1) 0) s / 16) bs (uA4 (bs.getD s 0) (bs.getD (s + 1) 0) s) ++ uAd K (uGoal (bs.getD (s + 1) 0)) 1 (uCx bs (bs.getD (s + 1) 0) s % 16) bs (uA5 (bs.getD s 0) (bs.getD (s + 1) 0) s))) (congrArg (UF B _) (by simp)) ?_
                refine tw_aload_n C dX9_read_103 0 rfl ?_
                refine tw_aload_n C dX9_read_104 1 rfl ?_
                refine tw_callV (As := [.ref (tw_ad G q)]) (rest := []) C N (c_X9_readsPorts hG (B := B) (F := F64) (pk := (be (ff (uT bs (uTF (bs.getD s 0)) (uA1 (bs.getD (s + 1) 0) s)) (uL bs (uTF (bs.getD s 0)) (uA1 (bs.getD (s + 1) 0) s))) 4 ++ [0, 0, (if uPo (bs.getD s 0) then 17 else bs.getD (uA2 (bs.getD s 0) (bs.getD (s + 1) 0) s) 0), (if uHL (bs.getD s 0) = 0 then bs.getD (uA2 (bs.getD s 0) (bs.getD (s + 1) 0) s + (if uPo (bs.getD s 0) then 0 else 1)) 0 else if uHL (bs.getD s 0) = 1 then 1 else if uHL (bs.getD s 0) = 2 then 64 else 255)]) ++ uAd K (uSrc (bs.getD (s + 1) 0)) 0 (uCx bs (bs.getD (s + 1) 0) s / 16) bs (uA4 (bs.getD s 0) (bs.getD (s + 1) 0) s) ++ uAd K (uGoal (bs.getD (s + 1) 0)) 1 (uCx bs (bs.getD (s + 1) 0) s % 16) bs (uA5 (bs.getD s 0) (bs.getD (s + 1) 0) s)) hq hq10 hbs hby hlen (K := K) (s := s) (by omega) hu3 ha6 (by simp [be_len, uAd_len]) hF66) mm_X9_readsPorts wd_459 rfl (hG 9 (by decide)) sh_9 rfl (by decide) rfl (Nat.le_of_ble_eq_true rfl) dX9_read_105 ?_
                rintro _ _ (⟨hft0, hx80, rfl, F74, rfl, hF76⟩ | ⟨rfl, hne79, F81, pk75, rfl, h3_77, h4_78⟩)
                · show TW G X (UF B F74 (if uPo (bs.getD s 0) then ((be (ff (uT bs (uTF (bs.getD s 0)) (uA1 (bs.getD (s + 1) 0) s)) (uL bs (uTF (bs.getD s 0)) (uA1 (bs.getD (s + 1) 0) s))) 4 ++ [0, 0, (if uPo (bs.getD s 0) then 17 else bs.getD (uA2 (bs.getD s 0) (bs.getD (s + 1) 0) s) 0), (if uHL (bs.getD s 0) = 0 then bs.getD (uA2 (bs.getD s 0) (bs.getD (s + 1) 0) s + (if uPo (bs.getD s 0) then 0 else 1)) 0 else if uHL (bs.getD s 0) = 1 then 1 else if uHL (bs.getD s 0) = 2 then 64 else 255)]) ++ uAd K (uSrc (bs.getD (s + 1) 0)) 0 (uCx bs (bs.getD (s + 1) 0) s / 16) bs (uA4 (bs.getD s 0) (bs.getD (s + 1) 0) s) ++ uAd K (uGoal (bs.getD (s + 1) 0)) 1 (uCx bs (bs.getD (s + 1) 0) s % 16) bs (uA5 (bs.getD s 0) (bs.getD (s + 1) 0) s)) ++ (be (uPn (uFm bs (bs.getD s 0) (bs.getD (s + 1) 0) s - 240) (nb bs (uA6 (bs.getD s 0) (bs.getD (s + 1) 0) s + 1) (pfN (uFm bs (bs.getD s 0) (bs.getD (s + 1) 0) s - 240)))) 4 ++ (be 0 2 ++ be (nb bs (uA6 (bs.getD s 0) (bs.getD (s + 1) 0) s + 1 + pfN (uFm bs (bs.getD s 0) (bs.getD (s + 1) 0) s - 240)) 2) 2)) else ((be (ff (uT bs (uTF (bs.getD s 0)) (uA1 (bs.getD (s + 1) 0) s)) (uL bs (uTF (bs.getD s 0)) (uA1 (bs.getD (s + 1) 0) s))) 4 ++ [0, 0, (if uPo (bs.getD s 0) then 17 else bs.getD (uA2 (bs.getD s 0) (bs.getD (s + 1) 0) s) 0), (if uHL (bs.getD s 0) = 0 then bs.getD (uA2 (bs.getD s 0) (bs.getD (s + 1) 0) s + (if uPo (bs.getD s 0) then 0 else 1)) 0 else if uHL (bs.getD s 0) = 1 then 1 else if uHL (bs.getD s 0) = 2 then 64 else 255)]) ++ uAd K (uSrc (bs.getD (s + 1) 0)) 0 (uCx bs (bs.getD (s + 1) 0) s / 16) bs (uA4 (bs.getD s 0) (bs.getD (s + 1) 0) s) ++ uAd K (uGoal (bs.getD (s + 1) 0)) 1 (uCx bs (bs.getD (s + 1) 0) s % 16) bs (uA5 (bs.getD s 0) (bs.getD (s + 1) 0) s)))) [(0, .ref (tw_ad G 9)), (1, .ref (tw_ad G q)), (2, .int (nI s)), (3, .int (nI m))] 108 [.int (bI true)]
                  have ha7 := hx80
                  refine tb_if_eq C dX9_read_108 (tgt := 115) (by decide) (fun c83 => ?_) (fun c83 => ?_)
                  · exact absurd c83 (by decide)
                  refine tw_iconst C dX9_read_111 (v := nI 1) (by decide) ?_
                  refine tw_goto C dX9_read_112 (tgt := 116) (by decide) ?_
                  refine tw_istore (L' := [(4, .int (nI 1)), (0, .ref (tw_ad G 9)), (1, .ref (tw_ad G q)), (2, .int (nI s)), (3, .int (nI m))]) C N dX9_read_116 (i := 4) (by decide) rfl ?_
                  refine tw_aload_n C dX9_read_118 1 rfl ?_
                  refine tw_aload_n C dX9_read_119 1 rfl ?_
                  refine tw_getI (v := nI (uA7 bs (bs.getD s 0) (bs.getD (s + 1) 0) s)) (k := 2) C dX9_read_120 fc_X9 sh_9 (hG 9 (by decide)) rfl (by decide) wd_360 hF76.1 ?_
                  refine tw_iload_n C dX9_read_123 3 rfl ?_
                  refine tw_isub C dX9_read_124 (v := nI ((uA7 bs (bs.getD s 0) (bs.getD (s + 1) 0) s) - s)) (pk_sub (by first | omega | (unfold uA7 uA6 uA5 uA4 uA2 uA1; split <;> split <;> omega))) ?_
                  refine tw_putI (k := 9) C dX9_read_125 fc_X9 sh_9 (hG 9 (by decide)) rfl (by decide) rfl wd_365 rfl rfl ?_
                  refine TW.sS (S' := UF B (upd F74 9 (nI ((uA7 bs (bs.getD s 0) (bs.getD (s + 1) 0) s) - s))) (if uPo (bs.getD s 0) then ((be (ff (uT bs (uTF (bs.getD s 0)) (uA1 (bs.getD (s + 1) 0) s)) (uL bs (uTF (bs.getD s 0)) (uA1 (bs.getD (s + 1) 0) s))) 4 ++ [0, 0, (if uPo (bs.getD s 0) then 17 else bs.getD (uA2 (bs.getD s 0) (bs.getD (s + 1) 0) s) 0), (if uHL (bs.getD s 0) = 0 then bs.getD (uA2 (bs.getD s 0) (bs.getD (s + 1) 0) s + (if uPo (bs.getD s 0) then 0 else 1)) 0 else if uHL (bs.getD s 0) = 1 then 1 else if uHL (bs.getD s 0) = 2 then 64 else 255)]) ++ uAd K (uSrc (bs.getD (s + 1) 0)) 0 (uCx bs (bs.getD (s + 1) 0) s / 16) bs (uA4 (bs.getD s 0) (bs.getD (s + 1) 0) s) ++ uAd K (uGoal (bs.getD (s + 1) 0)) 1 (uCx bs (bs.getD (s + 1) 0) s % 16) bs (uA5 (bs.getD s 0) (bs.getD (s + 1) 0) s)) ++ (be (uPn (uFm bs (bs.getD s 0) (bs.getD (s + 1) 0) s - 240) (nb bs (uA6 (bs.getD s 0) (bs.getD (s + 1) 0) s + 1) (pfN (uFm bs (bs.getD s 0) (bs.getD (s + 1) 0) s - 240)))) 4 ++ (be 0 2 ++ be (nb bs (uA6 (bs.getD s 0) (bs.getD (s + 1) 0) s + 1 + pfN (uFm bs (bs.getD s 0) (bs.getD (s + 1) 0) s - 240)) 2) 2)) else ((be (ff (uT bs (uTF (bs.getD s 0)) (uA1 (bs.getD (s + 1) 0) s)) (uL bs (uTF (bs.getD s 0)) (uA1 (bs.getD (s + 1) 0) s))) 4 ++ [0, 0, (if uPo (bs.getD s 0) then 17 else bs.getD (uA2 (bs.getD s 0) (bs.getD (s + 1) 0) s) 0), (if uHL (bs.getD s 0) = 0 then bs.getD (uA2 (bs.getD s 0) (bs.getD (s + 1) 0) s + (if uPo (bs.getD s 0) then 0 else 1)) 0 else if uHL (bs.getD s 0) = 1 then 1 else if uHL (bs.getD s 0) = 2 then 64 else 255)]) ++ uAd K (uSrc (bs.getD (s + 1) 0)) 0 (uCx bs (bs.getD (s + 1) 0) s / 16) bs (uA4 (bs.getD s 0) (bs.getD (s + 1) 0) s) ++ uAd K (uGoal (bs.getD (s + 1) 0)) 1 (uCx bs (bs.getD (s + 1) 0) s % 16) bs (uA5 (bs.getD s 0) (bs.getD (s + 1) 0) s)))) (UF_uI _ _ _ _ _) ?_
                  refine tw_iload C dX9_read_128 0 rfl ?_
                  refine tn_if_eq C dX9_read_130 (tgt := 146) (by decide) (by omega) (fun c84 => ?_) (fun c84 => ?_)
                  · exact absurd c84 (by decide)
                  refine tw_aload_n C dX9_read_133 1 rfl ?_
                  refine tw_aload_n C dX9_read_134 2 rfl ?_
                  refine tw_iload_n C dX9_read_135 4 rfl ?_
                  refine tw_callV (As := [.ref (tw_ad G q), .int (nI m)]) (rest := []) C N (c_X9_readsRest1 hG (B := B) (F := upd F74 9 (nI ((uA7 bs (bs.getD s 0) (bs.getD (s + 1) 0) s) - s))) (pk := if uPo (bs.getD s 0) then ((be (ff (uT bs (uTF (bs.getD s 0)) (uA1 (bs.getD (s + 1) 0) s)) (uL bs (uTF (bs.getD s 0)) (uA1 (bs.getD (s + 1) 0) s))) 4 ++ [0, 0, (if uPo (bs.getD s 0) then 17 else bs.getD (uA2 (bs.getD s 0) (bs.getD (s + 1) 0) s) 0), (if uHL (bs.getD s 0) = 0 then bs.getD (uA2 (bs.getD s 0) (bs.getD (s + 1) 0) s + (if uPo (bs.getD s 0) then 0 else 1)) 0 else if uHL (bs.getD s 0) = 1 then 1 else if uHL (bs.getD s 0) = 2 then 64 else 255)]) ++ uAd K (uSrc (bs.getD (s + 1) 0)) 0 (uCx bs (bs.getD (s + 1) 0) s / 16) bs (uA4 (bs.getD s 0) (bs.getD (s + 1) 0) s) ++ uAd K (uGoal (bs.getD (s + 1) 0)) 1 (uCx bs (bs.getD (s + 1) 0) s % 16) bs (uA5 (bs.getD s 0) (bs.getD (s + 1) 0) s)) ++ (be (uPn (uFm bs (bs.getD s 0) (bs.getD (s + 1) 0) s - 240) (nb bs (uA6 (bs.getD s 0) (bs.getD (s + 1) 0) s + 1) (pfN (uFm bs (bs.getD s 0) (bs.getD (s + 1) 0) s - 240)))) 4 ++ (be 0 2 ++ be (nb bs (uA6 (bs.getD s 0) (bs.getD (s + 1) 0) s + 1 + pfN (uFm bs (bs.getD s 0) (bs.getD (s + 1) 0) s - 240)) 2) 2)) else ((be (ff (uT bs (uTF (bs.getD s 0)) (uA1 (bs.getD (s + 1) 0) s)) (uL bs (uTF (bs.getD s 0)) (uA1 (bs.getD (s + 1) 0) s))) 4 ++ [0, 0, (if uPo (bs.getD s 0) then 17 else bs.getD (uA2 (bs.getD s 0) (bs.getD (s + 1) 0) s) 0), (if uHL (bs.getD s 0) = 0 then bs.getD (uA2 (bs.getD s 0) (bs.getD (s + 1) 0) s + (if uPo (bs.getD s 0) then 0 else 1)) 0 else if uHL (bs.getD s 0) = 1 then 1 else if uHL (bs.getD s 0) = 2 then 64 else 255)]) ++ uAd K (uSrc (bs.getD (s + 1) 0)) 0 (uCx bs (bs.getD (s + 1) 0) s / 16) bs (uA4 (bs.getD s 0) (bs.getD (s + 1) 0) s) ++ uAd K (uGoal (bs.getD (s + 1) 0)) 1 (uCx bs (bs.getD (s + 1) 0) s % 16) bs (uA5 (bs.getD s 0) (bs.getD (s + 1) 0) s))) hq hq10 hbs hby hlen (m := m) hm hl (s := s) (by omega) ha7 (by by_cases hp : uPo (bs.getD s 0) = true <;> simp only [hp, if_true, if_false, Bool.false_eq_true, List.length_append, List.length_cons, List.length_nil, be_len, uAd_len]) ⟨hF76.1, hF76.2.1, hF76.2.2.1, hF76.2.2.2.1, hF76.2.2.2.2.1, hF76.2.2.2.2.2.1, hF76.2.2.2.2.2.2⟩) mm_X9_readsRest wd_473 rfl (hG 9 (by decide)) sh_9 rfl (by decide) rfl (Nat.le_of_ble_eq_true rfl) dX9_read_136 ?_
                  rintro _ _ (⟨hbe, rfl, rfl⟩ | ⟨hbe, rfl, hne, F85, pk86, rfl, h3f, h4f⟩)
                  · show TW G X (UF B (upd F74 9 (nI ((uA7 bs (bs.getD s 0) (bs.getD (s + 1) 0) s) - s))) ((if uPo (bs.getD s 0) then setN (setN (if uPo (bs.getD s 0) then ((be (ff (uT bs (uTF (bs.getD s 0)) (uA1 (bs.getD (s + 1) 0) s)) (uL bs (uTF (bs.getD s 0)) (uA1 (bs.getD (s + 1) 0) s))) 4 ++ [0, 0, (if uPo (bs.getD s 0) then 17 else bs.getD (uA2 (bs.getD s 0) (bs.getD (s + 1) 0) s) 0), (if uHL (bs.getD s 0) = 0 then bs.getD (uA2 (bs.getD s 0) (bs.getD (s + 1) 0) s + (if uPo (bs.getD s 0) then 0 else 1)) 0 else if uHL (bs.getD s 0) = 1 then 1 else if uHL (bs.getD s 0) = 2 then 64 else 255)]) ++ uAd K (uSrc (bs.getD (s + 1) 0)) 0 (uCx bs (bs.getD (s + 1) 0) s / 16) bs (uA4 (bs.getD s 0) (bs.getD (s + 1) 0) s) ++ uAd K (uGoal (bs.getD (s + 1) 0)) 1 (uCx bs (bs.getD (s + 1) 0) s % 16) bs (uA5 (bs.getD s 0) (bs.getD (s + 1) 0) s)) ++ (be (uPn (uFm bs (bs.getD s 0) (bs.getD (s + 1) 0) s - 240) (nb bs (uA6 (bs.getD s 0) (bs.getD (s + 1) 0) s + 1) (pfN (uFm bs (bs.getD s 0) (bs.getD (s + 1) 0) s - 240)))) 4 ++ (be 0 2 ++ be (nb bs (uA6 (bs.getD s 0) (bs.getD (s + 1) 0) s + 1 + pfN (uFm bs (bs.getD s 0) (bs.getD (s + 1) 0) s - 240)) 2) 2)) else ((be (ff (uT bs (uTF (bs.getD s 0)) (uA1 (bs.getD (s + 1) 0) s)) (uL bs (uTF (bs.getD s 0)) (uA1 (bs.getD (s + 1) 0) s))) 4 ++ [0, 0, (if uPo (bs.getD s 0) then 17 else bs.getD (uA2 (bs.getD s 0) (bs.getD (s + 1) 0) s) 0), (if uHL (bs.getD s 0) = 0 then bs.getD (uA2 (bs.getD s 0) (bs.getD (s + 1) 0) s + (if uPo (bs.getD s 0) then 0 else 1)) 0 else if uHL (bs.getD s 0) = 1 then 1 else if uHL (bs.getD s 0) = 2 then 64 else 255)]) ++ uAd K (uSrc (bs.getD (s + 1) 0)) 0 (uCx bs (bs.getD (s + 1) 0) s / 16) bs (uA4 (bs.getD s 0) (bs.getD (s + 1) 0) s) ++ uAd K (uGoal (bs.getD (s + 1) 0)) 1 (uCx bs (bs.getD (s + 1) 0) s % 16) bs (uA5 (bs.getD s 0) (bs.getD (s + 1) 0) s))) 4 (be (uBe bs s (some m)) 2)) 44 (be (uBe bs s (some m)) 2) else setN (if uPo (bs.getD s 0) then ((be (ff (uT bs (uTF (bs.getD s 0)) (uA1 (bs.getD (s + 1) 0) s)) (uL bs (uTF (bs.getD s 0)) (uA1 (bs.getD (s + 1) 0) s))) 4 ++ [0, 0, (if uPo (bs.getD s 0) then 17 else bs.getD (uA2 (bs.getD s 0) (bs.getD (s + 1) 0) s) 0), (if uHL (bs.getD s 0) = 0 then bs.getD (uA2 (bs.getD s 0) (bs.getD (s + 1) 0) s + (if uPo (bs.getD s 0) then 0 else 1)) 0 else if uHL (bs.getD s 0) = 1 then 1 else if uHL (bs.getD s 0) = 2 then 64 else 255)]) ++ uAd K (uSrc (bs.getD (s + 1) 0)) 0 (uCx bs (bs.getD (s + 1) 0) s / 16) bs (uA4 (bs.getD s 0) (bs.getD (s + 1) 0) s) ++ uAd K (uGoal (bs.getD (s + 1) 0)) 1 (uCx bs (bs.getD (s + 1) 0) s % 16) bs (uA5 (bs.getD s 0) (bs.getD (s + 1) 0) s)) ++ (be (uPn (uFm bs (bs.getD s 0) (bs.getD (s + 1) 0) s - 240) (nb bs (uA6 (bs.getD s 0) (bs.getD (s + 1) 0) s + 1) (pfN (uFm bs (bs.getD s 0) (bs.getD (s + 1) 0) s - 240)))) 4 ++ (be 0 2 ++ be (nb bs (uA6 (bs.getD s 0) (bs.getD (s + 1) 0) s + 1 + pfN (uFm bs (bs.getD s 0) (bs.getD (s + 1) 0) s - 240)) 2) 2)) else ((be (ff (uT bs (uTF (bs.getD s 0)) (uA1 (bs.getD (s + 1) 0) s)) (uL bs (uTF (bs.getD s 0)) (uA1 (bs.getD (s + 1) 0) s))) 4 ++ [0, 0, (if uPo (bs.getD s 0) then 17 else bs.getD (uA2 (bs.getD s 0) (bs.getD (s + 1) 0) s) 0), (if uHL (bs.getD s 0) = 0 then bs.getD (uA2 (bs.getD s 0) (bs.getD (s + 1) 0) s + (if uPo (bs.getD s 0) then 0 else 1)) 0 else if uHL (bs.getD s 0) = 1 then 1 else if uHL (bs.getD s 0) = 2 then 64 else 255)]) ++ uAd K (uSrc (bs.getD (s + 1) 0)) 0 (uCx bs (bs.getD (s + 1) 0) s / 16) bs (uA4 (bs.getD s 0) (bs.getD (s + 1) 0) s) ++ uAd K (uGoal (bs.getD (s + 1) 0)) 1 (uCx bs (bs.getD (s + 1) 0) s % 16) bs (uA5 (bs.getD s 0) (bs.getD (s + 1) 0) s))) 4 (be (uBe bs s (some m)) 2)) ++ cutD bs (uA7 bs (bs.getD s 0) (bs.getD (s + 1) 0) s) (bs.length - uA7 bs (bs.getD s 0) (bs.getD (s + 1) 0) s))) [(4, .int (nI 1)), (0, .ref (tw_ad G 9)), (1, .ref (tw_ad G q)), (2, .int (nI s)), (3, .int (nI m))] 139 [.int (bI true)]
                    refine tb_if_eq C dX9_read_139 (tgt := 146) (by decide) (fun c88 => ?_) (fun c88 => ?_)
                    · exact absurd c88 (by decide)
                    refine tw_iconst C dX9_read_142 (v := nI 1) (by decide) ?_
                    refine tw_goto C dX9_read_143 (tgt := 147) (by decide) ?_
                    exact tw_ireturn C Q dX9_read_147 rfl rfl rfl (Or.inl ⟨by rw [uF_0 hft0 hbe], rfl, upd F74 9 (nI ((uA7 bs (bs.getD s 0) (bs.getD (s + 1) 0) s) - s)), by by_cases hp : uPo (bs.getD s 0) = true <;> simp only [hp, if_true, if_false, Bool.false_eq_true] <;> rw [uPk, ← uHd_eq K bs s _ _ rfl] <;> simp only [hp, if_true, if_false, Bool.false_eq_true], ⟨hF76.1, hF76.2.1, hF76.2.2.1, hF76.2.2.2.1, hF76.2.2.2.2.1, hF76.2.2.2.2.2.1, hF76.2.2.2.2.2.2⟩, rfl⟩)
                  · show TW G X (UF B F85 pk86) [(4, .int (nI 1)), (0, .ref (tw_ad G 9)), (1, .ref (tw_ad G q)), (2, .int (nI s)), (3, .int (nI m))] 139 [.int (bI false)]
                    have he7 := uF_7 (o := (some m)) hft0 hbe
                    refine tb_if_eq C dX9_read_139 (tgt := 146) (by decide) (fun c89 => ?_) (fun c89 => ?_)
                    · skip
                      refine tw_iconst C dX9_read_146 (v := nI 0) (by decide) ?_
                      exact tw_ireturn C Q dX9_read_147 rfl rfl rfl (Or.inr ⟨by rw [he7]; exact fun h => absurd h (by show ¬ 7 = 0; decide), rfl, by rw [he7]; exact ⟨fun h => absurd h (by show ¬ 7 = 0; decide), _, _, rfl, h3f, h4f⟩⟩)
                    · exact absurd c89 (by decide)
                · show TW G X (UF B F81 pk75) [(0, .ref (tw_ad G 9)), (1, .ref (tw_ad G q)), (2, .int (nI s)), (3, .int (nI m))] 108 [.int (bI false)]
                  have hz := hne79
                  have hz3 := h3_77
                  have hz4 := h4_78
                  refine tb_if_eq C dX9_read_108 (tgt := 115) (by decide) (fun c90 => ?_) (fun c90 => ?_)
                  · skip
                    refine tw_iconst C dX9_read_115 (v := nI 0) (by decide) ?_
                    refine tw_istore (L' := [(4, .int (nI 0)), (0, .ref (tw_ad G 9)), (1, .ref (tw_ad G q)), (2, .int (nI s)), (3, .int (nI m))]) C N dX9_read_116 (i := 4) (by decide) rfl ?_
                    refine tw_aload_n C dX9_read_118 1 rfl ?_
                    refine tw_aload_n C dX9_read_119 1 rfl ?_
                    refine tw_getI (v := F81 2) (k := 2) C dX9_read_120 fc_X9 sh_9 (hG 9 (by decide)) rfl (by decide) wd_360 rfl ?_
                    refine tw_iload_n C dX9_read_123 3 rfl ?_
                    refine tw_isub C dX9_read_124 (v := (F81 2) - (nI s)) rfl ?_
                    refine tw_putI (k := 9) C dX9_read_125 fc_X9 sh_9 (hG 9 (by decide)) rfl (by decide) rfl wd_365 rfl rfl ?_
                    refine TW.sS (S' := UF B (upd F81 9 ((F81 2) - (nI s))) pk75) (UF_uI _ _ _ _ _) ?_
                    refine tw_iload C dX9_read_128 0 rfl ?_
                    refine tn_if_eq C dX9_read_130 (tgt := 146) (by decide) (by omega) (fun c91 => ?_) (fun c91 => ?_)
                    · skip
                      refine tw_iconst C dX9_read_146 (v := nI 0) (by decide) ?_
                      exact tw_ireturn C Q dX9_read_147 rfl rfl rfl (Or.inr ⟨by rw [uF_t hz]; exact hz, rfl, by rw [uF_t hz]; exact ⟨hz, _, _, rfl, hz3, hz4⟩⟩)
                    · exact absurd c91 (by decide)
                  · exact absurd c90 (by decide)
              · show TW G X (UF B F71 pk65) [(0, .ref (tw_ad G 9)), (1, .ref (tw_ad G q)), (2, .int (nI s)), (3, .int (nI m))] 100 [.int (bI false)]
                have hft := uFt_a6 hu3 (show bs.length < uA6 (bs.getD s 0) (bs.getD (s + 1) 0) s by unfold uA6 uA5 uA4; have := hx70; first | omega | (unfold uA5 uA4 at this; omega) | (unfold uA4 at this; omega))
                have hz : (uFt K bs s).1 ≠ 0 := by rw [hft]; exact Nat.one_ne_zero
                have hz3 : F71 3 = nI (uFt K bs s).1 := by rw [hft]; exact h3_67
                have hz4 : F71 4 = nI (uFt K bs s).2 := by rw [hft]; exact h4_68
                refine tb_if_eq C dX9_read_100 (tgt := 115) (by decide) (fun c92 => ?_) (fun c92 => ?_)
                · skip
                  refine tw_iconst C dX9_read_115 (v := nI 0) (by decide) ?_
                  refine tw_istore (L' := [(4, .int (nI 0)), (0, .ref (tw_ad G 9)), (1, .ref (tw_ad G q)), (2, .int (nI s)), (3, .int (nI m))]) C N dX9_read_116 (i := 4) (by decide) rfl ?_
                  refine tw_aload_n C dX9_read_118 1 rfl ?_
                  refine tw_aload_n C dX9_read_119 1 rfl ?_
                  refine tw_getI (v := F71 2) (k := 2) C dX9_read_120 fc_X9 sh_9 (hG 9 (by decide)) rfl (by decide) wd_360 rfl ?_
                  refine tw_iload_n C dX9_read_123 3 rfl ?_
                  refine tw_isub C dX9_read_124 (v := (F71 2) - (nI s)) rfl ?_
                  refine tw_putI (k := 9) C dX9_read_125 fc_X9 sh_9 (hG 9 (by decide)) rfl (by decide) rfl wd_365 rfl rfl ?_
                  refine TW.sS (S' := UF B (upd F71 9 ((F71 2) - (nI s))) pk65) (UF_uI _ _ _ _ _) ?_
                  refine tw_iload C dX9_read_128 0 rfl ?_
                  refine tn_if_eq C dX9_read_130 (tgt := 146) (by decide) (by omega) (fun c93 => ?_) (fun c93 => ?_)
                  · skip
                    refine tw_iconst C dX9_read_146 (v := nI 0) (by decide) ?_
                    exact tw_ireturn C Q dX9_read_147 rfl rfl rfl (Or.inr ⟨by rw [uF_t hz]; exact hz, rfl, by rw [uF_t hz]; exact ⟨hz, _, _, rfl, hz3, hz4⟩⟩)
                  · exact absurd c93 (by decide)
                · exact absurd c92 (by decide)
            · show TW G X (UF B F60 pk54) [(0, .ref (tw_ad G 9)), (1, .ref (tw_ad G q)), (2, .int (nI s)), (3, .int (nI m))] 86 [.int (bI false)]
              have hft := uFt_a6 hu3 (show bs.length < uA6 (bs.getD s 0) (bs.getD (s + 1) 0) s by unfold uA6 uA5 uA4; have := hx59; first | omega | (unfold uA5 uA4 at this; omega) | (unfold uA4 at this; omega))
              have hz : (uFt K bs s).1 ≠ 0 := by rw [hft]; exact Nat.one_ne_zero
              have hz3 : F60 3 = nI (uFt K bs s).1 := by rw [hft]; exact h3_56
              have hz4 : F60 4 = nI (uFt K bs s).2 := by rw [hft]; exact h4_57
              refine tb_if_eq C dX9_read_86 (tgt := 115) (by decide) (fun c94 => ?_) (fun c94 => ?_)
              · skip
                refine tw_iconst C dX9_read_115 (v := nI 0) (by decide) ?_
                refine tw_istore (L' := [(4, .int (nI 0)), (0, .ref (tw_ad G 9)), (1, .ref (tw_ad G q)), (2, .int (nI s)), (3, .int (nI m))]) C N dX9_read_116 (i := 4) (by decide) rfl ?_
                refine tw_aload_n C dX9_read_118 1 rfl ?_
                refine tw_aload_n C dX9_read_119 1 rfl ?_
                refine tw_getI (v := F60 2) (k := 2) C dX9_read_120 fc_X9 sh_9 (hG 9 (by decide)) rfl (by decide) wd_360 rfl ?_
                refine tw_iload_n C dX9_read_123 3 rfl ?_
                refine tw_isub C dX9_read_124 (v := (F60 2) - (nI s)) rfl ?_
                refine tw_putI (k := 9) C dX9_read_125 fc_X9 sh_9 (hG 9 (by decide)) rfl (by decide) rfl wd_365 rfl rfl ?_
                refine TW.sS (S' := UF B (upd F60 9 ((F60 2) - (nI s))) pk54) (UF_uI _ _ _ _ _) ?_
                refine tw_iload C dX9_read_128 0 rfl ?_
                refine tn_if_eq C dX9_read_130 (tgt := 146) (by decide) (by omega) (fun c95 => ?_) (fun c95 => ?_)
                · skip
                  refine tw_iconst C dX9_read_146 (v := nI 0) (by decide) ?_
                  exact tw_ireturn C Q dX9_read_147 rfl rfl rfl (Or.inr ⟨by rw [uF_t hz]; exact hz, rfl, by rw [uF_t hz]; exact ⟨hz, _, _, rfl, hz3, hz4⟩⟩)
                · exact absurd c95 (by decide)
              · exact absurd c94 (by decide)
          · show TW G X (UF B F49 pk43) [(0, .ref (tw_ad G 9)), (1, .ref (tw_ad G q)), (2, .int (nI s)), (3, .int (nI m))] 72 [.int (bI false)]
            have hft := uFt_a6 hu3 (show bs.length < uA6 (bs.getD s 0) (bs.getD (s + 1) 0) s by unfold uA6 uA5 uA4; have := hx48; first | omega | (unfold uA5 uA4 at this; omega) | (unfold uA4 at this; omega))
            have hz : (uFt K bs s).1 ≠ 0 := by rw [hft]; exact Nat.one_ne_zero
            have hz3 : F49 3 = nI (uFt K bs s).1 := by rw [hft]; exact h3_45
            have hz4 : F49 4 = nI (uFt K bs s).2 := by rw [hft]; exact h4_46
            refine tb_if_eq C dX9_read_72 (tgt := 115) (by decide) (fun c96 => ?_) (fun c96 => ?_)
            · skip
              refine tw_iconst C dX9_read_115 (v := nI 0) (by decide) ?_
              refine tw_istore (L' := [(4, .int (nI 0)), (0, .ref (tw_ad G 9)), (1, .ref (tw_ad G q)), (2, .int (nI s)), (3, .int (nI m))]) C N dX9_read_116 (i := 4) (by decide) rfl ?_
              refine tw_aload_n C dX9_read_118 1 rfl ?_
              refine tw_aload_n C dX9_read_119 1 rfl ?_
              refine tw_getI (v := F49 2) (k := 2) C dX9_read_120 fc_X9 sh_9 (hG 9 (by decide)) rfl (by decide) wd_360 rfl ?_
              refine tw_iload_n C dX9_read_123 3 rfl ?_
              refine tw_isub C dX9_read_124 (v := (F49 2) - (nI s)) rfl ?_
              refine tw_putI (k := 9) C dX9_read_125 fc_X9 sh_9 (hG 9 (by decide)) rfl (by decide) rfl wd_365 rfl rfl ?_
              refine TW.sS (S' := UF B (upd F49 9 ((F49 2) - (nI s))) pk43) (UF_uI _ _ _ _ _) ?_
              refine tw_iload C dX9_read_128 0 rfl ?_
              refine tn_if_eq C dX9_read_130 (tgt := 146) (by decide) (by omega) (fun c97 => ?_) (fun c97 => ?_)
              · skip
                refine tw_iconst C dX9_read_146 (v := nI 0) (by decide) ?_
                exact tw_ireturn C Q dX9_read_147 rfl rfl rfl (Or.inr ⟨by rw [uF_t hz]; exact hz, rfl, by rw [uF_t hz]; exact ⟨hz, _, _, rfl, hz3, hz4⟩⟩)
              · exact absurd c97 (by decide)
            · exact absurd c96 (by decide)
        · show TW G X (UF B F39 pk33) [(0, .ref (tw_ad G 9)), (1, .ref (tw_ad G q)), (2, .int (nI s)), (3, .int (nI m))] 64 [.int (bI false)]
          have hft := uFt_a6 hu3 (show bs.length < uA6 (bs.getD s 0) (bs.getD (s + 1) 0) s by unfold uA6 uA5 uA4; have := hx38; first | omega | (unfold uA5 uA4 at this; omega) | (unfold uA4 at this; omega))
          have hz : (uFt K bs s).1 ≠ 0 := by rw [hft]; exact Nat.one_ne_zero
          have hz3 : F39 3 = nI (uFt K bs s).1 := by rw [hft]; exact h3_35
          have hz4 : F39 4 = nI (uFt K bs s).2 := by rw [hft]; exact h4_36
          refine tb_if_eq C dX9_read_64 (tgt := 115) (by decide) (fun c98 => ?_) (fun c98 => ?_)
          · skip
            refine tw_iconst C dX9_read_115 (v := nI 0) (by decide) ?_
            refine tw_istore (L' := [(4, .int (nI 0)), (0, .ref (tw_ad G 9)), (1, .ref (tw_ad G q)), (2, .int (nI s)), (3, .int (nI m))]) C N dX9_read_116 (i := 4) (by decide) rfl ?_
            refine tw_aload_n C dX9_read_118 1 rfl ?_
            refine tw_aload_n C dX9_read_119 1 rfl ?_
            refine tw_getI (v := F39 2) (k := 2) C dX9_read_120 fc_X9 sh_9 (hG 9 (by decide)) rfl (by decide) wd_360 rfl ?_
            refine tw_iload_n C dX9_read_123 3 rfl ?_
            refine tw_isub C dX9_read_124 (v := (F39 2) - (nI s)) rfl ?_
            refine tw_putI (k := 9) C dX9_read_125 fc_X9 sh_9 (hG 9 (by decide)) rfl (by decide) rfl wd_365 rfl rfl ?_
            refine TW.sS (S' := UF B (upd F39 9 ((F39 2) - (nI s))) pk33) (UF_uI _ _ _ _ _) ?_
            refine tw_iload C dX9_read_128 0 rfl ?_
            refine tn_if_eq C dX9_read_130 (tgt := 146) (by decide) (by omega) (fun c99 => ?_) (fun c99 => ?_)
            · skip
              refine tw_iconst C dX9_read_146 (v := nI 0) (by decide) ?_
              exact tw_ireturn C Q dX9_read_147 rfl rfl rfl (Or.inr ⟨by rw [uF_t hz]; exact hz, rfl, by rw [uF_t hz]; exact ⟨hz, _, _, rfl, hz3, hz4⟩⟩)
            · exact absurd c99 (by decide)
          · exact absurd c98 (by decide)
      · show TW G X (UF B F29 pk23) [(0, .ref (tw_ad G 9)), (1, .ref (tw_ad G q)), (2, .int (nI s)), (3, .int (nI m))] 56 [.int (bI false)]
        have hz := hne27
        have hz3 := h3_25
        have hz4 := h4_26
        refine tb_if_eq C dX9_read_56 (tgt := 115) (by decide) (fun c100 => ?_) (fun c100 => ?_)
        · skip
          refine tw_iconst C dX9_read_115 (v := nI 0) (by decide) ?_
          refine tw_istore (L' := [(4, .int (nI 0)), (0, .ref (tw_ad G 9)), (1, .ref (tw_ad G q)), (2, .int (nI s)), (3, .int (nI m))]) C N dX9_read_116 (i := 4) (by decide) rfl ?_
          refine tw_aload_n C dX9_read_118 1 rfl ?_
          refine tw_aload_n C dX9_read_119 1 rfl ?_
          refine tw_getI (v := F29 2) (k := 2) C dX9_read_120 fc_X9 sh_9 (hG 9 (by decide)) rfl (by decide) wd_360 rfl ?_
          refine tw_iload_n C dX9_read_123 3 rfl ?_
          refine tw_isub C dX9_read_124 (v := (F29 2) - (nI s)) rfl ?_
          refine tw_putI (k := 9) C dX9_read_125 fc_X9 sh_9 (hG 9 (by decide)) rfl (by decide) rfl wd_365 rfl rfl ?_
          refine TW.sS (S' := UF B (upd F29 9 ((F29 2) - (nI s))) pk23) (UF_uI _ _ _ _ _) ?_
          refine tw_iload C dX9_read_128 0 rfl ?_
          refine tn_if_eq C dX9_read_130 (tgt := 146) (by decide) (by omega) (fun c101 => ?_) (fun c101 => ?_)
          · skip
            refine tw_iconst C dX9_read_146 (v := nI 0) (by decide) ?_
            exact tw_ireturn C Q dX9_read_147 rfl rfl rfl (Or.inr ⟨by rw [uF_t hz]; exact hz, rfl, by rw [uF_t hz]; exact ⟨hz, _, _, rfl, hz3, hz4⟩⟩)
          · exact absurd c101 (by decide)
        · exact absurd c100 (by decide)
    · show TW G X (UF B F19 pk13) [(0, .ref (tw_ad G 9)), (1, .ref (tw_ad G q)), (2, .int (nI s)), (3, .int (nI m))] 48 [.int (bI false)]
      have hz := hne17
      have hz3 := h3_15
      have hz4 := h4_16
      refine tb_if_eq C dX9_read_48 (tgt := 115) (by decide) (fun c102 => ?_) (fun c102 => ?_)
      · skip
        refine tw_iconst C dX9_read_115 (v := nI 0) (by decide) ?_
        refine tw_istore (L' := [(4, .int (nI 0)), (0, .ref (tw_ad G 9)), (1, .ref (tw_ad G q)), (2, .int (nI s)), (3, .int (nI m))]) C N dX9_read_116 (i := 4) (by decide) rfl ?_
        refine tw_aload_n C dX9_read_118 1 rfl ?_
        refine tw_aload_n C dX9_read_119 1 rfl ?_
        refine tw_getI (v := F19 2) (k := 2) C dX9_read_120 fc_X9 sh_9 (hG 9 (by decide)) rfl (by decide) wd_360 rfl ?_
        refine tw_iload_n C dX9_read_123 3 rfl ?_
        refine tw_isub C dX9_read_124 (v := (F19 2) - (nI s)) rfl ?_
        refine tw_putI (k := 9) C dX9_read_125 fc_X9 sh_9 (hG 9 (by decide)) rfl (by decide) rfl wd_365 rfl rfl ?_
        refine TW.sS (S' := UF B (upd F19 9 ((F19 2) - (nI s))) pk13) (UF_uI _ _ _ _ _) ?_
        refine tw_iload C dX9_read_128 0 rfl ?_
        refine tn_if_eq C dX9_read_130 (tgt := 146) (by decide) (by omega) (fun c103 => ?_) (fun c103 => ?_)
        · skip
          refine tw_iconst C dX9_read_146 (v := nI 0) (by decide) ?_
          exact tw_ireturn C Q dX9_read_147 rfl rfl rfl (Or.inr ⟨by rw [uF_t hz]; exact hz, rfl, by rw [uF_t hz]; exact ⟨hz, _, _, rfl, hz3, hz4⟩⟩)
        · exact absurd c103 (by decide)
      · exact absurd c102 (by decide)
  · show TW G X (UF B F9 pk3) [(0, .ref (tw_ad G 9)), (1, .ref (tw_ad G q)), (2, .int (nI s)), (3, .int (nI m))] 40 [.int (bI false)]
    have hz := hne7
    have hz3 := h3_5
    have hz4 := h4_6
    refine tb_if_eq C dX9_read_40 (tgt := 115) (by decide) (fun c104 => ?_) (fun c104 => ?_)
    · skip
      refine tw_iconst C dX9_read_115 (v := nI 0) (by decide) ?_
      refine tw_istore (L' := [(4, .int (nI 0)), (0, .ref (tw_ad G 9)), (1, .ref (tw_ad G q)), (2, .int (nI s)), (3, .int (nI m))]) C N dX9_read_116 (i := 4) (by decide) rfl ?_
      refine tw_aload_n C dX9_read_118 1 rfl ?_
      refine tw_aload_n C dX9_read_119 1 rfl ?_
      refine tw_getI (v := F9 2) (k := 2) C dX9_read_120 fc_X9 sh_9 (hG 9 (by decide)) rfl (by decide) wd_360 rfl ?_
      refine tw_iload_n C dX9_read_123 3 rfl ?_
      refine tw_isub C dX9_read_124 (v := (F9 2) - (nI s)) rfl ?_
      refine tw_putI (k := 9) C dX9_read_125 fc_X9 sh_9 (hG 9 (by decide)) rfl (by decide) rfl wd_365 rfl rfl ?_
      refine TW.sS (S' := UF B (upd F9 9 ((F9 2) - (nI s))) pk3) (UF_uI _ _ _ _ _) ?_
      refine tw_iload C dX9_read_128 0 rfl ?_
      refine tn_if_eq C dX9_read_130 (tgt := 146) (by decide) (by omega) (fun c105 => ?_) (fun c105 => ?_)
      · skip
        refine tw_iconst C dX9_read_146 (v := nI 0) (by decide) ?_
        exact tw_ireturn C Q dX9_read_147 rfl rfl rfl (Or.inr ⟨by rw [uF_t hz]; exact hz, rfl, by rw [uF_t hz]; exact ⟨hz, _, _, rfl, hz3, hz4⟩⟩)
      · exact absurd c105 (by decide)
    · exact absurd c104 (by decide)
