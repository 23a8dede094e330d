/-! heaps of the class -/
def tw_hS (h : Nat) : Prop := h = 22 ∨ h = 26 ∨ h = 30
theorem tw_hp {h : Nat} (hh : tw_hS h) : tw_isRow (h + 1) = true ∧ tw_cap (h + 1) = 600 ∧ tw_sh h = some (2, [h + 4, h + 6, 0, 0, 0, 0, 0, 0]) ∧ tw_sh (h + 3) = none ∧ tw_ar (h + 3) = some (0, 75) := by
  rcases hh with rfl | rfl | rfl
  · exact tw_rowH0 0 (by decide)
  · exact tw_rowH0 1 (by decide)
  · exact tw_rowH0 2 (by decide)
theorem tw_hlt {h : Nat} (hh : tw_hS h) : 22 ≤ h ∧ h ≤ 30 := by unfold tw_hS at hh; omega
/-- the heap h holds: there, z, tag, time, how many parts, how many bytes, the lengths, the content -/
def HP (S : tw_S) (h : Nat) (th : Bool) (z tag time np nb : Nat) (f : Nat → Nat) (xs : List Nat) : Prop := tw_I S h 2 = bI th ∧ tw_I S h 3 = nI z ∧ tw_I S h 4 = nI tag ∧ tw_I S h 5 = nI time ∧ tw_I S h 6 = nI np ∧ tw_I S h 7 = nI nb ∧ (∀ k, k < 75 → tw_A S (h + 3) k = nI (f k)) ∧ tw_R S (h + 1) = xs
def HB (z tag time np nb : Nat) (f : Nat → Nat) : Prop := z < 2 ^ 20 ∧ tag < 2 ^ 20 ∧ time < 2 ^ 20 ∧ np < 2 ^ 20 ∧ nb < 2 ^ 20 ∧ ∀ k, f k < 2 ^ 20
theorem nI_lt_i {t : Nat} {x : Int32} (ht : t < 2 ^ 31) (hx : x < 0) : x < nI t := by
  have h0 : (0 : Int32) ≤ nI t := by
    rw [Int32.le_iff_toInt_le, Int32.toInt_zero, nI_toInt ht]
    omega
  exact Int32.lt_of_lt_of_le hx h0
theorem c_X2_isThere {G : tw_G} (hG : tw_cG G) {S : tw_S} {h : Nat} (hh : tw_hS h) {th : Bool} {z tag time np nb : Nat} {f : Nat → Nat} {xs : List Nat} (hH : HP S h th z tag time np nb f xs) (hB : HB z tag time np nb f) : tw_M G yX2_isThere cX2_isThere 1 (some .boolean) 0 0 [.ref (tw_ad G h)] S ri_I (fun v S' => v = bI th ∧ S = S') := by
  refine tw_M.of (L := [(0, .ref (tw_ad G h))]) (by decide) (Nat.le_of_ble_eq_true rfl) rfl (fun X C N Q => ?_)
  have C : tw_C G X cX2_isThere RX2 := C
  have hlt := tw_hlt hh
  obtain ⟨hb1, hb2, hb3, hb4, hb5, hb6⟩ := hB
  refine tw_aload_n C dX2_isThere_0 0 rfl ?_
  refine tw_getI (v := bI th) (k := 2) C dX2_isThere_1 fc_X2 (tw_hp hh).2.2.1 (hG _ (by omega)) rfl (by decide) wd_507 hH.1 ?_
  exact tw_ireturn C Q dX2_isThere_4 rfl (bI_nar _) rfl ⟨rfl, rfl⟩
theorem c_X2_isOf {G : tw_G} (hG : tw_cG G) {S : tw_S} {h : Nat} (hh : tw_hS h) {th : Bool} {z tag time np nb : Nat} {f : Nat → Nat} {xs : List Nat} (hH : HP S h th z tag time np nb f xs) (hB : HB z tag time np nb f) {z1 t1 : Nat} (hz1 : z1 < 2 ^ 20) (ht1 : t1 < 2 ^ 20) : tw_M G yX2_isOf cX2_isOf 3 (some .boolean) 0 0 [.ref (tw_ad G h), .int (nI z1), .int (nI t1)] S ri_I (fun v S' => v = bI (decide (th = true ∧ z = z1 ∧ tag = t1)) ∧ S = S') := by
  refine tw_M.of (L := [(0, .ref (tw_ad G h)), (1, .int (nI z1)), (2, .int (nI t1))]) (by decide) (Nat.le_of_ble_eq_true rfl) rfl (fun X C N Q => ?_)
  have C : tw_C G X cX2_isOf RX2 := C
  have hlt := tw_hlt hh
  obtain ⟨hb1, hb2, hb3, hb4, hb5, hb6⟩ := hB
  refine tw_aload_n C dX2_isOf_0 0 rfl ?_
  refine tw_getI (v := bI th) (k := 2) C dX2_isOf_1 fc_X2 (tw_hp hh).2.2.1 (hG _ (by omega)) rfl (by decide) wd_507 hH.1 ?_
  refine tb_if_eq C dX2_isOf_4 (tgt := 27) (by decide) (fun c1 => ?_) (fun c1 => ?_)
  · skip
    refine tw_iconst C dX2_isOf_27 (v := nI 0) (by decide) ?_
    exact tw_ireturn C Q dX2_isOf_28 rfl rfl rfl ⟨bI_of_f (by simp_all), rfl⟩
  · skip
    refine tw_aload_n C dX2_isOf_7 0 rfl ?_
    refine tw_getI (v := nI z) (k := 3) C dX2_isOf_8 fc_X2 (tw_hp hh).2.2.1 (hG _ (by omega)) rfl (by decide) wd_521 hH.2.1 ?_
    refine tw_iload_n C dX2_isOf_11 1 rfl ?_
    refine tn_icmp_ne C dX2_isOf_12 (tgt := 27) (by decide) (by omega) (by omega) (fun c2 => ?_) (fun c2 => ?_)
    · skip
      refine tw_iconst C dX2_isOf_27 (v := nI 0) (by decide) ?_
      exact tw_ireturn C Q dX2_isOf_28 rfl rfl rfl ⟨bI_of_f (by simp_all), rfl⟩
    · skip
      refine tw_aload_n C dX2_isOf_15 0 rfl ?_
      refine tw_getI (v := nI tag) (k := 4) C dX2_isOf_16 fc_X2 (tw_hp hh).2.2.1 (hG _ (by omega)) rfl (by decide) wd_522 hH.2.2.1 ?_
      refine tw_iload_n C dX2_isOf_19 2 rfl ?_
      refine tn_icmp_ne C dX2_isOf_20 (tgt := 27) (by decide) (by omega) (by omega) (fun c3 => ?_) (fun c3 => ?_)
      · skip
        refine tw_iconst C dX2_isOf_27 (v := nI 0) (by decide) ?_
        exact tw_ireturn C Q dX2_isOf_28 rfl rfl rfl ⟨bI_of_f (by simp_all), rfl⟩
      · skip
        refine tw_iconst C dX2_isOf_23 (v := nI 1) (by decide) ?_
        refine tw_goto C dX2_isOf_24 (tgt := 28) (by decide) ?_
        exact tw_ireturn C Q dX2_isOf_28 rfl rfl rfl ⟨bI_of_t (by simp_all), rfl⟩
theorem c_X2_beganBy1 {G : tw_G} (hG : tw_cG G) {S : tw_S} {h : Nat} (hh : tw_hS h) {th : Bool} {z tag time np nb : Nat} {f : Nat → Nat} {xs : List Nat} (hH : HP S h th z tag time np nb f xs) (hB : HB z tag time np nb f) {l : Nat} (hl : l < 2 ^ 30) : tw_M G yX2_beganBy cX2_beganBy 2 (some .boolean) 0 0 [.ref (tw_ad G h), .int (nI l)] S ri_I (fun v S' => v = bI (decide (th = true ∧ time ≤ l)) ∧ S = S') := by
  refine tw_M.of (L := [(0, .ref (tw_ad G h)), (1, .int (nI l))]) (by decide) (Nat.le_of_ble_eq_true rfl) rfl (fun X C N Q => ?_)
  have C : tw_C G X cX2_beganBy RX2 := C
  have hlt := tw_hlt hh
  obtain ⟨hb1, hb2, hb3, hb4, hb5, hb6⟩ := hB
  refine tw_aload_n C dX2_beganBy_0 0 rfl ?_
  refine tw_getI (v := bI th) (k := 2) C dX2_beganBy_1 fc_X2 (tw_hp hh).2.2.1 (hG _ (by omega)) rfl (by decide) wd_507 hH.1 ?_
  refine tb_if_eq C dX2_beganBy_4 (tgt := 19) (by decide) (fun c1 => ?_) (fun c1 => ?_)
  · skip
    refine tw_iconst C dX2_beganBy_19 (v := nI 0) (by decide) ?_
    exact tw_ireturn C Q dX2_beganBy_20 rfl rfl rfl ⟨bI_of_f (by simp_all), rfl⟩
  · skip
    refine tw_aload_n C dX2_beganBy_7 0 rfl ?_
    refine tw_getI (v := nI time) (k := 5) C dX2_beganBy_8 fc_X2 (tw_hp hh).2.2.1 (hG _ (by omega)) rfl (by decide) wd_508 hH.2.2.2.1 ?_
    refine tw_iload_n C dX2_beganBy_11 1 rfl ?_
    refine tn_icmp_gt C dX2_beganBy_12 (tgt := 19) (by decide) (by omega) (by omega) (fun c2 => ?_) (fun c2 => ?_)
    · skip
      refine tw_iconst C dX2_beganBy_19 (v := nI 0) (by decide) ?_
      exact tw_ireturn C Q dX2_beganBy_20 rfl rfl rfl ⟨bI_of_f (by simp_all), rfl⟩
    · skip
      refine tw_iconst C dX2_beganBy_15 (v := nI 1) (by decide) ?_
      refine tw_goto C dX2_beganBy_16 (tgt := 20) (by decide) ?_
      exact tw_ireturn C Q dX2_beganBy_20 rfl rfl rfl ⟨bI_of_t ⟨by simp_all, by omega⟩, rfl⟩
theorem c_X2_beganBy0 {G : tw_G} (hG : tw_cG G) {S : tw_S} {h : Nat} (hh : tw_hS h) {th : Bool} {z tag time np nb : Nat} {f : Nat → Nat} {xs : List Nat} (hH : HP S h th z tag time np nb f xs) (hB : HB z tag time np nb f) {x : Int32} (hx : x < 0) : tw_M G yX2_beganBy cX2_beganBy 2 (some .boolean) 0 0 [.ref (tw_ad G h), .int x] S ri_I (fun v S' => v = nI 0 ∧ S = S') := by
  refine tw_M.of (L := [(0, .ref (tw_ad G h)), (1, .int x)]) (by decide) (Nat.le_of_ble_eq_true rfl) rfl (fun X C N Q => ?_)
  have C : tw_C G X cX2_beganBy RX2 := C
  have hlt := tw_hlt hh
  obtain ⟨hb1, hb2, hb3, hb4, hb5, hb6⟩ := hB
  refine tw_aload_n C dX2_beganBy_0 0 rfl ?_
  refine tw_getI (v := bI th) (k := 2) C dX2_beganBy_1 fc_X2 (tw_hp hh).2.2.1 (hG _ (by omega)) rfl (by decide) wd_507 hH.1 ?_
  refine tb_if_eq C dX2_beganBy_4 (tgt := 19) (by decide) (fun c1 => ?_) (fun c1 => ?_)
  · skip
    refine tw_iconst C dX2_beganBy_19 (v := nI 0) (by decide) ?_
    exact tw_ireturn C Q dX2_beganBy_20 rfl rfl rfl ⟨rfl, rfl⟩
  · skip
    refine tw_aload_n C dX2_beganBy_7 0 rfl ?_
    refine tw_getI (v := nI time) (k := 5) C dX2_beganBy_8 fc_X2 (tw_hp hh).2.2.1 (hG _ (by omega)) rfl (by decide) wd_508 hH.2.2.2.1 ?_
    refine tw_iload_n C dX2_beganBy_11 1 rfl ?_
    refine tw_icmp_gt C dX2_beganBy_12 (tgt := 19) (by decide) (fun c12 => ?_) (fun c12 => ?_)
    · skip
      refine tw_iconst C dX2_beganBy_19 (v := nI 0) (by decide) ?_
      exact tw_ireturn C Q dX2_beganBy_20 rfl rfl rfl ⟨rfl, rfl⟩
    · exact absurd (nI_lt_i (by omega) hx) c12
theorem c_X2_parts {G : tw_G} (hG : tw_cG G) {S : tw_S} {h : Nat} (hh : tw_hS h) {th : Bool} {z tag time np nb : Nat} {f : Nat → Nat} {xs : List Nat} (hH : HP S h th z tag time np nb f xs) (hB : HB z tag time np nb f) : tw_M G yX2_parts cX2_parts 1 (some .int) 0 0 [.ref (tw_ad G h)] S ri_I (fun v S' => v = nI (if th = true then np else 0) ∧ S = S') := by
  refine tw_M.of (L := [(0, .ref (tw_ad G h))]) (by decide) (Nat.le_of_ble_eq_true rfl) rfl (fun X C N Q => ?_)
  have C : tw_C G X cX2_parts RX2 := C
  have hlt := tw_hlt hh
  obtain ⟨hb1, hb2, hb3, hb4, hb5, hb6⟩ := hB
  refine tw_aload_n C dX2_parts_0 0 rfl ?_
  refine tw_getI (v := bI th) (k := 2) C dX2_parts_1 fc_X2 (tw_hp hh).2.2.1 (hG _ (by omega)) rfl (by decide) wd_507 hH.1 ?_
  refine tb_if_eq C dX2_parts_4 (tgt := 14) (by decide) (fun c1 => ?_) (fun c1 => ?_)
  · skip
    refine tw_iconst C dX2_parts_14 (v := nI 0) (by decide) ?_
    exact tw_ireturn C Q dX2_parts_15 rfl rfl rfl ⟨by simp_all, rfl⟩
  · skip
    refine tw_aload_n C dX2_parts_7 0 rfl ?_
    refine tw_getI (v := nI np) (k := 6) C dX2_parts_8 fc_X2 (tw_hp hh).2.2.1 (hG _ (by omega)) rfl (by decide) wd_531 hH.2.2.2.2.1 ?_
    refine tw_goto C dX2_parts_11 (tgt := 15) (by decide) ?_
    exact tw_ireturn C Q dX2_parts_15 rfl rfl rfl ⟨by simp_all, rfl⟩
theorem c_X2_bytes {G : tw_G} (hG : tw_cG G) {S : tw_S} {h : Nat} (hh : tw_hS h) {th : Bool} {z tag time np nb : Nat} {f : Nat → Nat} {xs : List Nat} (hH : HP S h th z tag time np nb f xs) (hB : HB z tag time np nb f) : tw_M G yX2_bytes cX2_bytes 1 (some .int) 0 0 [.ref (tw_ad G h)] S ri_I (fun v S' => v = nI (if th = true then nb else 0) ∧ S = S') := by
  refine tw_M.of (L := [(0, .ref (tw_ad G h))]) (by decide) (Nat.le_of_ble_eq_true rfl) rfl (fun X C N Q => ?_)
  have C : tw_C G X cX2_bytes RX2 := C
  have hlt := tw_hlt hh
  obtain ⟨hb1, hb2, hb3, hb4, hb5, hb6⟩ := hB
  refine tw_aload_n C dX2_bytes_0 0 rfl ?_
  refine tw_getI (v := bI th) (k := 2) C dX2_bytes_1 fc_X2 (tw_hp hh).2.2.1 (hG _ (by omega)) rfl (by decide) wd_507 hH.1 ?_
  refine tb_if_eq C dX2_bytes_4 (tgt := 14) (by decide) (fun c1 => ?_) (fun c1 => ?_)
  · skip
    refine tw_iconst C dX2_bytes_14 (v := nI 0) (by decide) ?_
    exact tw_ireturn C Q dX2_bytes_15 rfl rfl rfl ⟨by simp_all, rfl⟩
  · skip
    refine tw_aload_n C dX2_bytes_7 0 rfl ?_
    refine tw_getI (v := nI nb) (k := 7) C dX2_bytes_8 fc_X2 (tw_hp hh).2.2.1 (hG _ (by omega)) rfl (by decide) wd_532 hH.2.2.2.2.2.1 ?_
    refine tw_goto C dX2_bytes_11 (tgt := 15) (by decide) ?_
    exact tw_ireturn C Q dX2_bytes_15 rfl rfl rfl ⟨by simp_all, rfl⟩
theorem c_X2_content {G : tw_G} (hG : tw_cG G) {S : tw_S} {h : Nat} (hh : tw_hS h) : tw_M G yX2_content cX2_content 1 (some (.object "ShortFrames$Row")) 0 0 [.ref (tw_ad G h)] S (ri_A G) (fun v S' => v = h + 1 ∧ S = S') := by
  refine tw_M.of (L := [(0, .ref (tw_ad G h))]) (by decide) (Nat.le_of_ble_eq_true rfl) rfl (fun X C N Q => ?_)
  have C : tw_C G X cX2_content RX2 := C
  have hlt := tw_hlt hh
  refine tw_aload_n C dX2_content_0 0 rfl ?_
  refine tw_getR (q := h + 1) (k := 0) C dX2_content_1 fc_X2 (tw_hp hh).2.2.1 (hG _ (by omega)) rfl (by decide) wd_103 ?_
  exact tw_areturn C Q dX2_content_4 rfl rfl ⟨rfl, rfl⟩
theorem c_X2_end {G : tw_G} (hG : tw_cG G) {S : tw_S} {h : Nat} (hh : tw_hS h) : tw_M G yX2_end cX2_end 1 none 0 0 [.ref (tw_ad G h)] S ri_V (fun _ S' => S' = tw_uI S h 2 (bI false)) := by
  refine tw_M.of (L := [(0, .ref (tw_ad G h))]) (by decide) (Nat.le_of_ble_eq_true rfl) rfl (fun X C N Q => ?_)
  have C : tw_C G X cX2_end RX2 := C
  have hlt := tw_hlt hh
  refine tw_aload_n C dX2_end_0 0 rfl ?_
  refine tw_iconst C dX2_end_1 (v := nI 0) (by decide) ?_
  refine tw_putI (k := 2) C dX2_end_2 fc_X2 (tw_hp hh).2.2.1 (hG _ (by omega)) rfl (by decide) rfl wd_507 rfl rfl ?_
  exact tw_return (v := ()) C Q dX2_end_5 rfl rfl rfl
theorem c_X2_hasJust {G : tw_G} (hG : tw_cG G) {S : tw_S} {h : Nat} (hh : tw_hS h) {th : Bool} {z tag time np nb : Nat} {f : Nat → Nat} {xs : List Nat} (hH : HP S h th z tag time np nb f xs) (hB : HB z tag time np nb f) {q m : Nat} (hq : q < 600) (hm : m < 2 ^ 20) : tw_M G yX2_hasJust cX2_hasJust 4 (some .boolean) 0 0 [.ref (tw_ad G h), .int (nI q), .int (nI m)] S ri_I (fun v S' => v = bI (decide (f (q / 8) = m)) ∧ S = S') := by
  refine tw_M.of (L := [(0, .ref (tw_ad G h)), (1, .int (nI q)), (2, .int (nI m))]) (by decide) (Nat.le_of_ble_eq_true rfl) rfl (fun X C N Q => ?_)
  have C : tw_C G X cX2_hasJust RX2 := C
  have hlt := tw_hlt hh
  obtain ⟨hb1, hb2, hb3, hb4, hb5, hb6⟩ := hB
  refine tw_iload_n C dX2_hasJust_0 1 rfl ?_
  refine tw_bipush C dX2_hasJust_1 (v := nI 8) (by decide) ?_
  refine tw_idiv C dX2_hasJust_3 (by decide) (v := nI (q / 8)) (pk_div (by omega) (by decide) (by decide)) ?_
  refine tw_istore_n (L' := [(3, .int (nI (q / 8))), (0, .ref (tw_ad G h)), (1, .int (nI q)), (2, .int (nI m))]) C N dX2_hasJust_4 rfl (by decide) rfl ?_
  refine tw_iload_n C dX2_hasJust_5 0 rfl ?_
  refine tn_if_lt C dX2_hasJust_6 (tgt := 29) (by decide) (by omega) (fun c1 => ?_) (fun c1 => ?_)
  · exact absurd c1 id
  refine tw_iload_n C dX2_hasJust_9 0 rfl ?_
  refine tw_bipush C dX2_hasJust_10 (v := nI 75) (by decide) ?_
  refine tn_icmp_ge C dX2_hasJust_12 (tgt := 29) (by decide) (by omega) (by omega) (fun c2 => ?_) (fun c2 => ?_)
  · exact absurd c2 (by omega)
  refine tw_aload_n C dX2_hasJust_15 1 rfl ?_
  refine tw_getR (q := h + 3) (k := 1) C dX2_hasJust_16 fc_X2 (tw_hp hh).2.2.1 (hG _ (by omega)) rfl (by decide) wd_104 ?_
  refine tw_iload_n C dX2_hasJust_19 0 rfl ?_
  refine tw_iald (v := nI (f (q / 8))) C dX2_hasJust_20 (tw_hp hh).2.2.2.1 (tw_hp hh).2.2.2.2 (hG _ (by omega)) (by omega) (by decide) (hH.2.2.2.2.2.2.1 _ (by omega)) ?_
  refine tw_iload_n C dX2_hasJust_21 3 rfl ?_
  refine tn_icmp_ne C dX2_hasJust_22 (tgt := 29) (by decide) (Nat.lt_trans (hb6 _) (by decide)) (by omega) (fun c3 => ?_) (fun c3 => ?_)
  · skip
    refine tw_iconst C dX2_hasJust_29 (v := nI 0) (by decide) ?_
    exact tw_ireturn C Q dX2_hasJust_30 rfl rfl rfl ⟨bI_of_f (by omega), rfl⟩
  · skip
    refine tw_iconst C dX2_hasJust_25 (v := nI 1) (by decide) ?_
    refine tw_goto C dX2_hasJust_26 (tgt := 30) (by decide) ?_
    exact tw_ireturn C Q dX2_hasJust_30 rfl rfl rfl ⟨bI_of_t (by omega), rfl⟩
theorem c_X2_isWhole {G : tw_G} (hG : tw_cG G) {S : tw_S} {h : Nat} (hh : tw_hS h) {th : Bool} {z tag time np nb : Nat} {f : Nat → Nat} {xs : List Nat} (hH : HP S h th z tag time np nb f xs) (hB : HB z tag time np nb f) : tw_M G yX2_isWhole cX2_isWhole 1 (some .boolean) 0 0 [.ref (tw_ad G h)] S ri_I (fun v S' => v = bI (decide (th = true ∧ nb = z)) ∧ S = S') := by
  refine tw_M.of (L := [(0, .ref (tw_ad G h))]) (by decide) (Nat.le_of_ble_eq_true rfl) rfl (fun X C N Q => ?_)
  have C : tw_C G X cX2_isWhole RX2 := C
  have hlt := tw_hlt hh
  obtain ⟨hb1, hb2, hb3, hb4, hb5, hb6⟩ := hB
  refine tw_aload_n C dX2_isWhole_0 0 rfl ?_
  refine tw_getI (v := bI th) (k := 2) C dX2_isWhole_1 fc_X2 (tw_hp hh).2.2.1 (hG _ (by omega)) rfl (by decide) wd_507 hH.1 ?_
  refine tb_if_eq C dX2_isWhole_4 (tgt := 22) (by decide) (fun c1 => ?_) (fun c1 => ?_)
  · skip
    refine tw_iconst C dX2_isWhole_22 (v := nI 0) (by decide) ?_
    exact tw_ireturn C Q dX2_isWhole_23 rfl rfl rfl ⟨bI_of_f (by simp_all), rfl⟩
  · skip
    refine tw_aload_n C dX2_isWhole_7 0 rfl ?_
    refine tw_getI (v := nI nb) (k := 7) C dX2_isWhole_8 fc_X2 (tw_hp hh).2.2.1 (hG _ (by omega)) rfl (by decide) wd_532 hH.2.2.2.2.2.1 ?_
    refine tw_aload_n C dX2_isWhole_11 0 rfl ?_
    refine tw_getI (v := nI z) (k := 3) C dX2_isWhole_12 fc_X2 (tw_hp hh).2.2.1 (hG _ (by omega)) rfl (by decide) wd_521 hH.2.1 ?_
    refine tn_icmp_ne C dX2_isWhole_15 (tgt := 22) (by decide) (by omega) (by omega) (fun c2 => ?_) (fun c2 => ?_)
    · skip
      refine tw_iconst C dX2_isWhole_22 (v := nI 0) (by decide) ?_
      exact tw_ireturn C Q dX2_isWhole_23 rfl rfl rfl ⟨bI_of_f (by simp_all), rfl⟩
    · skip
      refine tw_iconst C dX2_isWhole_18 (v := nI 1) (by decide) ?_
      refine tw_goto C dX2_isWhole_19 (tgt := 23) (by decide) ?_
      exact tw_ireturn C Q dX2_isWhole_23 rfl rfl rfl ⟨bI_of_t (by simp_all), rfl⟩
def hitB (f : Nat → Nat) (q m : Nat) : Bool := (List.range 75).any (fun k => decide (0 < f k) && decide (8 * k < q + m) && decide (q < 8 * k + f k))
theorem hitB_iff {f : Nat → Nat} {q m : Nat} : hitB f q m = true ↔ (∃ k, k < 75 ∧ 0 < f k ∧ 8 * k < q + m ∧ q < 8 * k + f k) := by
  simp only [hitB, List.any_eq_true, List.mem_range, Bool.and_eq_true, decide_eq_true_eq]
  constructor
  · rintro ⟨k, h1, ⟨h2, h3⟩, h4⟩
    exact ⟨k, h1, h2, h3, h4⟩
  · rintro ⟨k, h1, h2, h3, h4⟩
    exact ⟨k, h1, ⟨h2, h3⟩, h4⟩
theorem c_X2_meets {G : tw_G} (hG : tw_cG G) {S : tw_S} {h : Nat} (hh : tw_hS h) {th : Bool} {z tag time np nb : Nat} {f : Nat → Nat} {xs : List Nat} (hH : HP S h th z tag time np nb f xs) (hB : HB z tag time np nb f) {q m : Nat} (hq : q < 2 ^ 20) (hm : m < 2 ^ 20) : tw_M G yX2_meets cX2_meets 5 (some .boolean) 0 0 [.ref (tw_ad G h), .int (nI q), .int (nI m)] S ri_I (fun v S' => v = bI (hitB f q m) ∧ S = S') := by
  refine tw_M.of (L := [(0, .ref (tw_ad G h)), (1, .int (nI q)), (2, .int (nI m))]) (by decide) (Nat.le_of_ble_eq_true rfl) rfl (fun X C N Q => ?_)
  have C : tw_C G X cX2_meets RX2 := C
  have hlt := tw_hlt hh
  obtain ⟨hb1, hb2, hb3, hb4, hb5, hb6⟩ := hB
  have loop : ∀ (d : Nat) (k : Nat) (_ : k + d = 75) (_ : ∀ j, j < k → ¬ (0 < f j ∧ 8 * j < q + m ∧ q < 8 * j + f j)), TW G X S [(3, .int (nI k)), (0, .ref (tw_ad G h)), (1, .int (nI q)), (2, .int (nI m))] 2 [] := by
    intro d
    induction d with
    | zero =>
      intro k hk hno
      refine tw_iload_n C dX2_meets_2 0 rfl ?_
      refine tw_bipush C dX2_meets_3 (v := nI 75) (by decide) ?_
      refine tn_icmp_ge C dX2_meets_5 (tgt := 52) (by decide) (by omega) (by omega) (fun c1 => ?_) (fun c1 => ?_)
      · skip
        refine tw_iconst C dX2_meets_52 (v := nI 0) (by decide) ?_
        exact tw_ireturn C Q dX2_meets_53 rfl rfl rfl ⟨by rw [show hitB f q m = false from Bool.eq_false_iff.mpr (by intro hx; rw [hitB_iff] at hx; obtain ⟨j, h1, h2, h3, h4⟩ := hx; exact hno j (by omega) ⟨h2, h3, h4⟩)]; rfl, rfl⟩
      · exact absurd c1 (by omega)
    | succ d ih =>
      intro k hk hno
      refine tw_iload_n C dX2_meets_2 0 rfl ?_
      refine tw_bipush C dX2_meets_3 (v := nI 75) (by decide) ?_
      refine tn_icmp_ge C dX2_meets_5 (tgt := 52) (by decide) (by omega) (by omega) (fun c1 => ?_) (fun c1 => ?_)
      · exact absurd c1 (by omega)
      refine tw_bipush C dX2_meets_8 (v := nI 8) (by decide) ?_
      refine tw_iload_n C dX2_meets_10 0 rfl ?_
      refine tw_imul C dX2_meets_11 (v := nI (8 * k)) (pk_mul _ _) ?_
      refine tw_istore (L' := [(4, .int (nI (8 * k))), (3, .int (nI k)), (0, .ref (tw_ad G h)), (1, .int (nI q)), (2, .int (nI m))]) C N dX2_meets_12 (i := 4) (by decide) rfl ?_
      have hfk := hb6 k
      refine tw_aload_n C dX2_meets_14 2 rfl ?_
      refine tw_getR (q := h + 3) (k := 1) C dX2_meets_15 fc_X2 (tw_hp hh).2.2.1 (hG _ (by omega)) rfl (by decide) wd_104 ?_
      refine tw_iload_n C dX2_meets_18 1 rfl ?_
      refine tw_iald (v := nI (f k)) C dX2_meets_19 (tw_hp hh).2.2.2.1 (tw_hp hh).2.2.2.2 (hG _ (by omega)) (by omega) (by decide) (hH.2.2.2.2.2.2.1 _ (by omega)) ?_
      refine tn_if_le C dX2_meets_20 (tgt := 46) (by decide) (by omega) (fun c2 => ?_) (fun c2 => ?_)
      · skip
        refine tw_iinc (k := 1) (v := nI (k + 1)) (L' := [(3, .int (nI (k + 1))), (4, .int (nI (8 * k))), (0, .ref (tw_ad G h)), (1, .int (nI q)), (2, .int (nI m))]) C N dX2_meets_46 rfl (tn_inc1 _) (by decide) rfl ?_
        refine tw_goto C dX2_meets_49 (tgt := 2) (by decide) ?_
        refine TW.c (L' := [(3, .int (nI (k + 1))), (0, .ref (tw_ad G h)), (1, .int (nI q)), (2, .int (nI m))]) (by simp) ?_
        exact ih (k + 1) (by omega) (fun j hj => by
          by_cases hjk : j = k
          · rw [hjk]; omega
          · exact hno j (by omega))
      · skip
        refine tw_iload C dX2_meets_23 0 rfl ?_
        refine tw_iload_n C dX2_meets_25 3 rfl ?_
        refine tw_iload_n C dX2_meets_26 4 rfl ?_
        refine tw_iadd C dX2_meets_27 (v := nI (q + m)) (nI_add _ _) ?_
        refine tn_icmp_ge C dX2_meets_28 (tgt := 46) (by decide) (by omega) (by omega) (fun c3 => ?_) (fun c3 => ?_)
        · skip
          refine tw_iinc (k := 1) (v := nI (k + 1)) (L' := [(3, .int (nI (k + 1))), (4, .int (nI (8 * k))), (0, .ref (tw_ad G h)), (1, .int (nI q)), (2, .int (nI m))]) C N dX2_meets_46 rfl (tn_inc1 _) (by decide) rfl ?_
          refine tw_goto C dX2_meets_49 (tgt := 2) (by decide) ?_
          refine TW.c (L' := [(3, .int (nI (k + 1))), (0, .ref (tw_ad G h)), (1, .int (nI q)), (2, .int (nI m))]) (by simp) ?_
          exact ih (k + 1) (by omega) (fun j hj => by
            by_cases hjk : j = k
            · rw [hjk]; omega
            · exact hno j (by omega))
        · skip
          refine tw_iload_n C dX2_meets_31 3 rfl ?_
          refine tw_iload C dX2_meets_32 0 rfl ?_
          refine tw_aload_n C dX2_meets_34 2 rfl ?_
          refine tw_getR (q := h + 3) (k := 1) C dX2_meets_35 fc_X2 (tw_hp hh).2.2.1 (hG _ (by omega)) rfl (by decide) wd_104 ?_
          refine tw_iload_n C dX2_meets_38 1 rfl ?_
          refine tw_iald (v := nI (f k)) C dX2_meets_39 (tw_hp hh).2.2.2.1 (tw_hp hh).2.2.2.2 (hG _ (by omega)) (by omega) (by decide) (hH.2.2.2.2.2.2.1 _ (by omega)) ?_
          refine tw_iadd C dX2_meets_40 (v := nI ((8 * k) + (f k))) (nI_add _ _) ?_
          refine tn_icmp_ge C dX2_meets_41 (tgt := 46) (by decide) (by omega) (by omega) (fun c4 => ?_) (fun c4 => ?_)
          · skip
            refine tw_iinc (k := 1) (v := nI (k + 1)) (L' := [(3, .int (nI (k + 1))), (4, .int (nI (8 * k))), (0, .ref (tw_ad G h)), (1, .int (nI q)), (2, .int (nI m))]) C N dX2_meets_46 rfl (tn_inc1 _) (by decide) rfl ?_
            refine tw_goto C dX2_meets_49 (tgt := 2) (by decide) ?_
            refine TW.c (L' := [(3, .int (nI (k + 1))), (0, .ref (tw_ad G h)), (1, .int (nI q)), (2, .int (nI m))]) (by simp) ?_
            exact ih (k + 1) (by omega) (fun j hj => by
              by_cases hjk : j = k
              · rw [hjk]; omega
              · exact hno j (by omega))
          · skip
            refine tw_iconst C dX2_meets_44 (v := nI 1) (by decide) ?_
            exact tw_ireturn C Q dX2_meets_45 rfl rfl rfl ⟨by rw [hitB_iff.mpr ⟨k, by omega, by omega, by omega, by omega⟩]; rfl, rfl⟩
  refine tw_iconst C dX2_meets_0 (v := nI 0) (by decide) ?_
  refine tw_istore_n (L' := [(3, .int (nI 0)), (0, .ref (tw_ad G h)), (1, .int (nI q)), (2, .int (nI m))]) C N dX2_meets_1 rfl (by decide) rfl ?_
  refine TW.c (L' := [(3, .int (nI 0)), (0, .ref (tw_ad G h)), (1, .int (nI q)), (2, .int (nI m))]) (by simp) ?_
  exact loop 75 0 rfl (fun j hj => absurd hj (by omega))
/-- all but the heap h stays -/
def hF (h : Nat) (S S' : tw_S) : Prop := (∀ r, r ≠ h + 1 → tw_R S' r = tw_R S r) ∧ (∀ r k, r ≠ h → tw_I S' r k = tw_I S r k) ∧ tw_J S' = tw_J S ∧ (∀ r, r ≠ h + 3 → tw_A S' r = tw_A S r) ∧ tw_B S' = tw_B S
def aF (r0 : Nat) (S S' : tw_S) : Prop := tw_R S' = tw_R S ∧ tw_I S' = tw_I S ∧ tw_J S' = tw_J S ∧ tw_B S' = tw_B S ∧ ∀ r, r ≠ r0 → tw_A S' r = tw_A S r
theorem aF_rf (r0 : Nat) (S : tw_S) : aF r0 S S := ⟨rfl, rfl, rfl, rfl, fun _ _ => rfl⟩
theorem aF_uA {r0 : Nat} {S S' : tw_S} {k : Nat} {x : Int32} (h : aF r0 S S') : aF r0 S (tw_uA S' r0 k x) := ⟨h.1, h.2.1, h.2.2.1, h.2.2.2.1, fun r hr => by rw [← h.2.2.2.2 r hr]; funext j; simp [tw_A, tw_uA, hr]⟩
theorem hF_rf (h : Nat) (S : tw_S) : hF h S S := ⟨fun _ _ => rfl, fun _ _ _ => rfl, rfl, fun _ _ => rfl, rfl⟩
theorem hF_uI {h : Nat} {S S' : tw_S} {k : Nat} {x : Int32} (g : hF h S S') : hF h S (tw_uI S' h k x) := ⟨g.1, fun r k2 hr => by rw [← g.2.1 r k2 hr]; simp [tw_I, tw_uI, hr], g.2.2.1, g.2.2.2.1, g.2.2.2.2⟩
theorem hF_uR {h : Nat} {S S' : tw_S} {x : List Nat} (g : hF h S S') : hF h S (tw_uR S' (h + 1) x) := ⟨fun r hr => by rw [tq_uR_ne _ _ hr]; exact g.1 r hr, g.2.1, g.2.2.1, g.2.2.2.1, g.2.2.2.2⟩
theorem hF_uA {h : Nat} {S S' : tw_S} {k : Nat} {x : Int32} (g : hF h S S') : hF h S (tw_uA S' (h + 3) k x) := ⟨g.1, g.2.1, g.2.2.1, fun r hr => by rw [← g.2.2.2.1 r hr]; funext j; simp [tw_A, tw_uA, hr], g.2.2.2.2⟩
theorem hF_aF {h : Nat} {S S0 S1 : tw_S} (g : hF h S S0) (a : aF (h + 3) S0 S1) : hF h S S1 := ⟨fun r hr => by rw [a.1]; exact g.1 r hr, fun r k hr => by rw [a.2.1]; exact g.2.1 r k hr, a.2.2.1.trans g.2.2.1, fun r hr => (a.2.2.2.2 r hr).trans (g.2.2.2.1 r hr), a.2.2.2.1.trans g.2.2.2.2⟩
def updN (f : Nat → Nat) (i x : Nat) : Nat → Nat := fun k => if k = i then x else f k
def pcs (xs : List Nat) (q : Nat) (ys : List Nat) (s : Nat) : Nat → List Nat
  | 0 => xs
  | k + 1 => (pcs xs q ys s k).set (q + k) (ys.getD (s + k) 0 % 256)
theorem pcs_len (xs : List Nat) (q : Nat) (ys : List Nat) (s : Nat) : ∀ k, (pcs xs q ys s k).length = xs.length
  | 0 => rfl
  | k + 1 => by rw [pcs, List.length_set, pcs_len xs q ys s k]
theorem c_X2_begin {G : tw_G} (hG : tw_cG G) {S : tw_S} {h : Nat} (hh : tw_hS h) {z1 t1 u1 : Nat} (hz : z1 ≤ 600) : tw_M G yX2_begin cX2_begin 5 none 2 43 [.ref (tw_ad G h), .int (nI z1), .int (nI t1), .int (nI u1)] S ri_V (fun _ S' => HP S' h true z1 t1 u1 0 0 (fun _ => 0) (List.replicate z1 0) ∧ hF h S S') := by
  refine tw_M.of (L := [(0, .ref (tw_ad G h)), (1, .int (nI z1)), (2, .int (nI t1)), (3, .int (nI u1))]) (by decide) (Nat.le_of_ble_eq_true rfl) rfl (fun X C N Q => ?_)
  have C : tw_C G X cX2_begin RX2 := C
  have hlt := tw_hlt hh
  have loop : ∀ (d : Nat) (k : Nat) (S1 : tw_S) (_ : k + d = 75) (_ : ∀ j, j < k → tw_A S1 (h + 3) j = nI 0) (_ : aF (h + 3) (tw_uR (tw_uI (tw_uI (tw_uI (tw_uI (tw_uI (tw_uI S h 2 (nI 1)) h 3 (nI z1)) h 4 (nI t1)) h 5 (nI u1)) h 6 (nI 0)) h 7 (nI 0)) (h + 1) (List.replicate z1 0)) S1), TW G X S1 [(4, .int (nI k)), (0, .ref (tw_ad G h)), (1, .int (nI z1)), (2, .int (nI t1)), (3, .int (nI u1))] 41 [] := by
    intro d
    induction d with
    | zero =>
      intro k S1 hk hA ha
      refine tw_iload C dX2_begin_41 0 rfl ?_
      refine tw_bipush C dX2_begin_43 (v := nI 75) (by decide) ?_
      refine tn_icmp_ge C dX2_begin_45 (tgt := 62) (by decide) (by omega) (by omega) (fun c1 => ?_) (fun c1 => ?_)
      · skip
        exact tw_return (v := ()) C Q dX2_begin_62 rfl rfl ⟨⟨((congrFun (congrFun ha.2.1 h) 2).trans (by simp [tq_I_uI, tq_I_uR]; rfl)), ((congrFun (congrFun ha.2.1 h) 3).trans (by simp [tq_I_uI, tq_I_uR])), ((congrFun (congrFun ha.2.1 h) 4).trans (by simp [tq_I_uI, tq_I_uR])), ((congrFun (congrFun ha.2.1 h) 5).trans (by simp [tq_I_uI, tq_I_uR])), ((congrFun (congrFun ha.2.1 h) 6).trans (by simp [tq_I_uI, tq_I_uR])), ((congrFun (congrFun ha.2.1 h) 7).trans (by simp [tq_I_uI, tq_I_uR])), fun j hj => hA j (by omega), (congrFun ha.1 (h + 1)).trans (tq_uR_same _ _ _)⟩, hF_aF (hF_uR (hF_uI (hF_uI (hF_uI (hF_uI (hF_uI (hF_uI (hF_rf h S)))))))) ha⟩
      · exact absurd c1 (by omega)
    | succ d ih =>
      intro k S1 hk hA ha
      refine tw_iload C dX2_begin_41 0 rfl ?_
      refine tw_bipush C dX2_begin_43 (v := nI 75) (by decide) ?_
      refine tn_icmp_ge C dX2_begin_45 (tgt := 62) (by decide) (by omega) (by omega) (fun c1 => ?_) (fun c1 => ?_)
      · exact absurd c1 (by omega)
      refine tw_aload_n C dX2_begin_48 1 rfl ?_
      refine tw_getR (q := h + 3) (k := 1) C dX2_begin_49 fc_X2 (tw_hp hh).2.2.1 (hG _ (by omega)) rfl (by decide) wd_104 ?_
      refine tw_iload C dX2_begin_52 0 rfl ?_
      refine tw_iconst C dX2_begin_54 (v := nI 0) (by decide) ?_
      refine tw_iast C dX2_begin_55 (tw_hp hh).2.2.2.1 (tw_hp hh).2.2.2.2 (hG _ (by omega)) (by omega) (by decide) ?_
      refine tw_iinc (k := 0) (v := nI (k + 1)) (L' := [(4, .int (nI (k + 1))), (0, .ref (tw_ad G h)), (1, .int (nI z1)), (2, .int (nI t1)), (3, .int (nI u1))]) C N dX2_begin_56 rfl (tn_inc1 _) (by decide) rfl ?_
      refine tw_goto C dX2_begin_59 (tgt := 41) (by decide) ?_
      refine TW.c (L' := [(4, .int (nI (k + 1))), (0, .ref (tw_ad G h)), (1, .int (nI z1)), (2, .int (nI t1)), (3, .int (nI u1))]) (by simp) ?_
      exact ih (k + 1) _ (by omega) (fun j hj => by
        by_cases hjk : j = k
        · rw [hjk]; simp [tq_A_uA]
        · simp only [tq_A_uA, hjk, and_false, if_false]; exact hA j (by omega)) (aF_uA ha)
  refine tw_aload_n C dX2_begin_0 0 rfl ?_
  refine tw_iconst C dX2_begin_1 (v := nI 1) (by decide) ?_
  refine tw_putI (k := 2) C dX2_begin_2 fc_X2 (tw_hp hh).2.2.1 (hG _ (by omega)) rfl (by decide) rfl wd_507 rfl rfl ?_
  refine tw_aload_n C dX2_begin_5 0 rfl ?_
  refine tw_iload_n C dX2_begin_6 1 rfl ?_
  refine tw_putI (k := 3) C dX2_begin_7 fc_X2 (tw_hp hh).2.2.1 (hG _ (by omega)) rfl (by decide) rfl wd_521 rfl rfl ?_
  refine tw_aload_n C dX2_begin_10 0 rfl ?_
  refine tw_iload_n C dX2_begin_11 2 rfl ?_
  refine tw_putI (k := 4) C dX2_begin_12 fc_X2 (tw_hp hh).2.2.1 (hG _ (by omega)) rfl (by decide) rfl wd_522 rfl rfl ?_
  refine tw_aload_n C dX2_begin_15 0 rfl ?_
  refine tw_iload_n C dX2_begin_16 3 rfl ?_
  refine tw_putI (k := 5) C dX2_begin_17 fc_X2 (tw_hp hh).2.2.1 (hG _ (by omega)) rfl (by decide) rfl wd_508 rfl rfl ?_
  refine tw_aload_n C dX2_begin_20 0 rfl ?_
  refine tw_iconst C dX2_begin_21 (v := nI 0) (by decide) ?_
  refine tw_putI (k := 6) C dX2_begin_22 fc_X2 (tw_hp hh).2.2.1 (hG _ (by omega)) rfl (by decide) rfl wd_531 rfl rfl ?_
  refine tw_aload_n C dX2_begin_25 0 rfl ?_
  refine tw_iconst C dX2_begin_26 (v := nI 0) (by decide) ?_
  refine tw_putI (k := 7) C dX2_begin_27 fc_X2 (tw_hp hh).2.2.1 (hG _ (by omega)) rfl (by decide) rfl wd_532 rfl rfl ?_
  refine tw_aload_n C dX2_begin_30 0 rfl ?_
  refine tw_getR (q := h + 1) (k := 0) C dX2_begin_31 fc_X2 (tw_hp hh).2.2.1 (hG _ (by omega)) rfl (by decide) wd_103 ?_
  refine tw_iload_n C dX2_begin_34 1 rfl ?_
  refine tw_callV (As := [.int (nI z1)]) (rest := []) C N (c_X7_becomeZeros hG (S := tw_uI (tw_uI (tw_uI (tw_uI (tw_uI (tw_uI S h 2 (nI 1)) h 3 (nI z1)) h 4 (nI t1)) h 5 (nI u1)) h 6 (nI 0)) h 7 (nI 0)) (tw_hp hh).1 (i := z1) (by omega)) mm_X7_becomeZeros wd_533 rfl (hG _ (by omega)) (tw_row_sh (tw_hp hh).1) rfl (by decide) rfl (Nat.le_of_ble_eq_true rfl) dX2_begin_35 ?_
  rintro _ _ rfl
  show TW G X (tw_uR (tw_uI (tw_uI (tw_uI (tw_uI (tw_uI (tw_uI S h 2 (nI 1)) h 3 (nI z1)) h 4 (nI t1)) h 5 (nI u1)) h 6 (nI 0)) h 7 (nI 0)) (h + 1) ((List.replicate z1 0).take (tw_cap (h + 1)))) [(0, .ref (tw_ad G h)), (1, .int (nI z1)), (2, .int (nI t1)), (3, .int (nI u1))] 38 []
  refine TW.sS (S' := tw_uR (tw_uI (tw_uI (tw_uI (tw_uI (tw_uI (tw_uI S h 2 (nI 1)) h 3 (nI z1)) h 4 (nI t1)) h 5 (nI u1)) h 6 (nI 0)) h 7 (nI 0)) (h + 1) (List.replicate z1 0)) (by rw [List.take_of_length_le (by rw [(tw_hp hh).2.1, List.length_replicate]; omega)]) ?_
  refine tw_iconst C dX2_begin_38 (v := nI 0) (by decide) ?_
  refine tw_istore (L' := [(4, .int (nI 0)), (0, .ref (tw_ad G h)), (1, .int (nI z1)), (2, .int (nI t1)), (3, .int (nI u1))]) C N dX2_begin_39 (i := 4) (by decide) rfl ?_
  refine TW.c (L' := [(4, .int (nI 0)), (0, .ref (tw_ad G h)), (1, .int (nI z1)), (2, .int (nI t1)), (3, .int (nI u1))]) (by simp) ?_
  exact loop 75 0 _ rfl (fun j hj => absurd hj (by omega)) (aF_rf _ _)
theorem c_X2_keep {G : tw_G} (hG : tw_cG G) {S : tw_S} {h : Nat} (hh : tw_hS h) {th : Bool} {z tag time np nb : Nat} {f : Nat → Nat} {xs : List Nat} (hH : HP S h th z tag time np nb f xs) (hB : HB z tag time np nb f) {o : Nat} (ho : tw_isRow o = true) (hne : o ≠ h + 1) {ys : List Nat} (hy : tw_R S o = ys) {q s : Nat} (hq : q < 600) (hs : s ≤ ys.length) (hl : ys.length ≤ 640) : tw_M G yX2_keep cX2_keep 7 none 1 22 [.ref (tw_ad G h), .int (nI q), .ref (tw_ad G o), .int (nI s)] S ri_V (fun _ S' => HP S' h th z tag time (np + 1) (nb + (ys.length - s)) (updN f (q / 8) (ys.length - s)) (pcs xs q ys s (ys.length - s)) ∧ hF h S S') := by
  refine tw_M.of (L := [(0, .ref (tw_ad G h)), (1, .int (nI q)), (2, .ref (tw_ad G o)), (3, .int (nI s))]) (by decide) (Nat.le_of_ble_eq_true rfl) rfl (fun X C N Q => ?_)
  have C : tw_C G X cX2_keep RX2 := C
  have hlt := tw_hlt hh
  obtain ⟨hb1, hb2, hb3, hb4, hb5, hb6⟩ := hB
  have loop : ∀ (d : Nat) (k : Nat) (_ : k + d = ys.length - s), TW G X (tw_uR (tw_uI (tw_uI (tw_uA S (h + 3) (q / 8) (nI (ys.length - s))) h 6 (nI (np + 1))) h 7 (nI (nb + (ys.length - s)))) (h + 1) (pcs xs q ys s k)) [(6, .int (nI k)), (5, .int (nI (q / 8))), (4, .int (nI (ys.length - s))), (0, .ref (tw_ad G h)), (1, .int (nI q)), (2, .ref (tw_ad G o)), (3, .int (nI s))] 60 [] := by
    intro d
    induction d with
    | zero =>
      intro k hk
      refine tw_iload C dX2_keep_60 0 rfl ?_
      refine tw_iload C dX2_keep_62 2 rfl ?_
      refine tn_icmp_ge C dX2_keep_64 (tgt := 92) (by decide) (by omega) (by omega) (fun c1 => ?_) (fun c1 => ?_)
      · skip
        exact tw_return (v := ()) C Q dX2_keep_92 rfl rfl ⟨⟨(by simp [tq_I_uI, tq_I_uR, tq_I_uA]; exact hH.1), (by simp [tq_I_uI, tq_I_uR, tq_I_uA]; exact hH.2.1), (by simp [tq_I_uI, tq_I_uR, tq_I_uA]; exact hH.2.2.1), (by simp [tq_I_uI, tq_I_uR, tq_I_uA]; exact hH.2.2.2.1), (by simp [tq_I_uI, tq_I_uR, tq_I_uA]), (by simp [tq_I_uI, tq_I_uR, tq_I_uA]), fun j hj => by
          simp only [tq_A_uR, tq_A_uI, tq_A_uA, updN, true_and]
          split
          · rfl
          · exact hH.2.2.2.2.2.2.1 j hj, by rw [show ys.length - s = k by omega]; exact tq_uR_same _ _ _⟩, hF_uR (hF_uI (hF_uI (hF_uA (hF_rf h S))))⟩
      · exact absurd c1 (by omega)
    | succ d ih =>
      intro k hk
      refine tw_iload C dX2_keep_60 0 rfl ?_
      refine tw_iload C dX2_keep_62 2 rfl ?_
      refine tn_icmp_ge C dX2_keep_64 (tgt := 92) (by decide) (by omega) (by omega) (fun c1 => ?_) (fun c1 => ?_)
      · exact absurd c1 (by omega)
      refine tw_aload_n C dX2_keep_67 3 rfl ?_
      refine tw_getR (q := h + 1) (k := 0) C dX2_keep_68 fc_X2 (tw_hp hh).2.2.1 (hG _ (by omega)) rfl (by decide) wd_103 ?_
      refine tw_iload_n C dX2_keep_71 4 rfl ?_
      refine tw_iload C dX2_keep_72 0 rfl ?_
      refine tw_iadd C dX2_keep_74 (v := nI (q + k)) (nI_add _ _) ?_
      refine tw_aload_n C dX2_keep_75 5 rfl ?_
      refine tw_iload_n C dX2_keep_76 6 rfl ?_
      refine tw_iload C dX2_keep_77 0 rfl ?_
      refine tw_iadd C dX2_keep_79 (v := nI (s + k)) (nI_add _ _) ?_
      refine tw_callV (As := [.int (nI (s + k))]) (rest := [.int (nI (q + k)), .ref (tw_ad G (h + 1))]) C N (e_X7_at hG (S := tw_uR (tw_uI (tw_uI (tw_uA S (h + 3) (q / 8) (nI (ys.length - s))) h 6 (nI (np + 1))) h 7 (nI (nb + (ys.length - s)))) (h + 1) (pcs xs q ys s k)) ho (xs := ys) ((tq_uR_ne _ _ hne).trans hy) (i := s + k) (by omega)) mm_X7_at wd_547 rfl (hG _ (tw_row_lt ho).2) (tw_row_sh ho) rfl (by decide) rfl (Nat.le_of_ble_eq_true rfl) dX2_keep_80 ?_
      rintro _ _ ⟨rfl, rfl⟩
      show TW G X (tw_uR (tw_uI (tw_uI (tw_uA S (h + 3) (q / 8) (nI (ys.length - s))) h 6 (nI (np + 1))) h 7 (nI (nb + (ys.length - s)))) (h + 1) (pcs xs q ys s k)) [(6, .int (nI k)), (5, .int (nI (q / 8))), (4, .int (nI (ys.length - s))), (0, .ref (tw_ad G h)), (1, .int (nI q)), (2, .ref (tw_ad G o)), (3, .int (nI s))] 83 [.int (nI (ys.getD (s + k) 0)), .int (nI (q + k)), .ref (tw_ad G (h + 1))]
      refine tw_callV (As := [.int (nI (q + k)), .int (nI (ys.getD (s + k) 0))]) (rest := []) C N (e_X7_set hG (S := tw_uR (tw_uI (tw_uI (tw_uA S (h + 3) (q / 8) (nI (ys.length - s))) h 6 (nI (np + 1))) h 7 (nI (nb + (ys.length - s)))) (h + 1) (pcs xs q ys s k)) (tw_hp hh).1 (xs := pcs xs q ys s k) (tq_uR_same _ _ _) (x := ys.getD (s + k) 0) (i := q + k) (by omega)) mm_X7_set wd_548 rfl (hG _ (by omega)) (tw_row_sh (tw_hp hh).1) rfl (by decide) rfl (Nat.le_of_ble_eq_true rfl) dX2_keep_83 ?_
      rintro _ _ rfl
      show TW G X (tw_uR (tw_uR (tw_uI (tw_uI (tw_uA S (h + 3) (q / 8) (nI (ys.length - s))) h 6 (nI (np + 1))) h 7 (nI (nb + (ys.length - s)))) (h + 1) (pcs xs q ys s k)) (h + 1) ((pcs xs q ys s k).set (q + k) ((ys.getD (s + k) 0) % 256))) [(6, .int (nI k)), (5, .int (nI (q / 8))), (4, .int (nI (ys.length - s))), (0, .ref (tw_ad G h)), (1, .int (nI q)), (2, .ref (tw_ad G o)), (3, .int (nI s))] 86 []
      refine TW.sS (S' := tw_uR (tw_uI (tw_uI (tw_uA S (h + 3) (q / 8) (nI (ys.length - s))) h 6 (nI (np + 1))) h 7 (nI (nb + (ys.length - s)))) (h + 1) ((pcs xs q ys s k).set (q + k) ((ys.getD (s + k) 0) % 256))) (tw_uR_uR _ _ _ _) ?_
      refine tw_iinc (k := 0) (v := nI (k + 1)) (L' := [(6, .int (nI (k + 1))), (5, .int (nI (q / 8))), (4, .int (nI (ys.length - s))), (0, .ref (tw_ad G h)), (1, .int (nI q)), (2, .ref (tw_ad G o)), (3, .int (nI s))]) C N dX2_keep_86 rfl (tn_inc1 _) (by decide) rfl ?_
      refine tw_goto C dX2_keep_89 (tgt := 60) (by decide) ?_
      refine TW.c (L' := [(6, .int (nI (k + 1))), (5, .int (nI (q / 8))), (4, .int (nI (ys.length - s))), (0, .ref (tw_ad G h)), (1, .int (nI q)), (2, .ref (tw_ad G o)), (3, .int (nI s))]) (by simp) ?_
      exact ih (k + 1) (by omega)
  refine tw_aload_n C dX2_keep_0 2 rfl ?_
  refine tw_callV (As := []) (rest := []) C N (e_X7_length hG (S := S) ho (xs := ys) hy ) mm_X7_length wd_546 rfl (hG _ (tw_row_lt ho).2) (tw_row_sh ho) rfl (by decide) rfl (Nat.le_of_ble_eq_true rfl) dX2_keep_1 ?_
  rintro _ _ ⟨rfl, rfl⟩
  show TW G X S [(0, .ref (tw_ad G h)), (1, .int (nI q)), (2, .ref (tw_ad G o)), (3, .int (nI s))] 4 [.int (nI ys.length)]
  refine tw_iload_n C dX2_keep_4 3 rfl ?_
  refine tw_isub C dX2_keep_5 (v := nI (ys.length - s)) (pk_sub (by omega)) ?_
  refine tw_istore (L' := [(4, .int (nI (ys.length - s))), (0, .ref (tw_ad G h)), (1, .int (nI q)), (2, .ref (tw_ad G o)), (3, .int (nI s))]) C N dX2_keep_6 (i := 4) (by decide) rfl ?_
  refine tw_iload_n C dX2_keep_8 2 rfl ?_
  refine tw_bipush C dX2_keep_9 (v := nI 8) (by decide) ?_
  refine tw_idiv C dX2_keep_11 (by decide) (v := nI (q / 8)) (pk_div (by omega) (by decide) (by decide)) ?_
  refine tw_istore (L' := [(5, .int (nI (q / 8))), (4, .int (nI (ys.length - s))), (0, .ref (tw_ad G h)), (1, .int (nI q)), (2, .ref (tw_ad G o)), (3, .int (nI s))]) C N dX2_keep_12 (i := 5) (by decide) rfl ?_
  refine tw_iload C dX2_keep_14 0 rfl ?_
  refine tn_if_lt C dX2_keep_16 (tgt := 26) (by decide) (by omega) (fun c2 => ?_) (fun c2 => ?_)
  · exact absurd c2 id
  refine tw_iload C dX2_keep_19 0 rfl ?_
  refine tw_bipush C dX2_keep_21 (v := nI 75) (by decide) ?_
  refine tn_icmp_lt C dX2_keep_23 (tgt := 27) (by decide) (by omega) (by omega) (fun c3 => ?_) (fun c3 => ?_)
  · skip
    refine tw_aload_n C dX2_keep_27 2 rfl ?_
    refine tw_getR (q := h + 3) (k := 1) C dX2_keep_28 fc_X2 (tw_hp hh).2.2.1 (hG _ (by omega)) rfl (by decide) wd_104 ?_
    refine tw_iload C dX2_keep_31 0 rfl ?_
    refine tw_iload C dX2_keep_33 1 rfl ?_
    refine tw_iast C dX2_keep_35 (tw_hp hh).2.2.2.1 (tw_hp hh).2.2.2.2 (hG _ (by omega)) (by omega) (by decide) ?_
    refine tw_aload_n C dX2_keep_36 2 rfl ?_
    refine tw_dup C dX2_keep_37 rfl ?_
    refine tw_getI (v := nI np) (k := 6) C dX2_keep_38 fc_X2 (tw_hp hh).2.2.1 (hG _ (by omega)) rfl (by decide) wd_531 hH.2.2.2.2.1 ?_
    refine tw_iconst C dX2_keep_41 (v := nI 1) (by decide) ?_
    refine tw_iadd C dX2_keep_42 (v := nI (np + 1)) (nI_add _ _) ?_
    refine tw_putI (k := 6) C dX2_keep_43 fc_X2 (tw_hp hh).2.2.1 (hG _ (by omega)) rfl (by decide) rfl wd_531 rfl rfl ?_
    refine tw_aload_n C dX2_keep_46 2 rfl ?_
    refine tw_dup C dX2_keep_47 rfl ?_
    refine tw_getI (v := nI nb) (k := 7) C dX2_keep_48 fc_X2 (tw_hp hh).2.2.1 (hG _ (by omega)) rfl (by decide) wd_532 (by simp [tq_I_uI, tq_I_uA]; exact hH.2.2.2.2.2.1) ?_
    refine tw_iload C dX2_keep_51 1 rfl ?_
    refine tw_iadd C dX2_keep_53 (v := nI (nb + (ys.length - s))) (nI_add _ _) ?_
    refine tw_putI (k := 7) C dX2_keep_54 fc_X2 (tw_hp hh).2.2.1 (hG _ (by omega)) rfl (by decide) rfl wd_532 rfl rfl ?_
    refine tw_iconst C dX2_keep_57 (v := nI 0) (by decide) ?_
    refine tw_istore (L' := [(6, .int (nI 0)), (5, .int (nI (q / 8))), (4, .int (nI (ys.length - s))), (0, .ref (tw_ad G h)), (1, .int (nI q)), (2, .ref (tw_ad G o)), (3, .int (nI s))]) C N dX2_keep_58 (i := 6) (by decide) rfl ?_
    refine TW.sS (S' := tw_uR (tw_uI (tw_uI (tw_uA S (h + 3) (q / 8) (nI (ys.length - s))) h 6 (nI (np + 1))) h 7 (nI (nb + (ys.length - s)))) (h + 1) (pcs xs q ys s 0)) (by rw [show pcs xs q ys s 0 = tw_R (tw_uI (tw_uI (tw_uA S (h + 3) (q / 8) (nI (ys.length - s))) h 6 (nI (np + 1))) h 7 (nI (nb + (ys.length - s)))) (h + 1) from hH.2.2.2.2.2.2.2.symm, tw_uR_self]) ?_
    refine TW.c (L' := [(6, .int (nI 0)), (5, .int (nI (q / 8))), (4, .int (nI (ys.length - s))), (0, .ref (tw_ad G h)), (1, .int (nI q)), (2, .ref (tw_ad G o)), (3, .int (nI s))]) (by simp) ?_
    exact loop (ys.length - s) 0 (by omega)
  · exact absurd c3 (by omega)
