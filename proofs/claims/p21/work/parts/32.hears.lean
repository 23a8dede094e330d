/-! a part comes -/
theorem nb_lt16 {fs : List Nat} (h : ∀ x ∈ fs, x < 256) (i : Nat) : nb fs i 2 < 65536 := nb_lt h i 2
def okP (z q m : Nat) : Prop := 40 ≤ z ∧ z ≤ 600 ∧ q + m ≤ z ∧ ((q + m) % 8 = 0 ∨ q + m = z)
def okPB (z q m : Nat) : Bool := decide (40 ≤ z) && decide (z ≤ 600) && decide (q + m ≤ z) && (decide ((q + m) % 8 = 0) || decide (q + m = z))
theorem okPB_iff {z q m : Nat} : okPB z q m = true ↔ okP z q m := by simp [okPB, okP, and_assoc]
def newH (z t ck : Nat) : cH := (true, z, t, ck, 0, 0, fun _ => 0, List.replicate z 0)
def keepH (e : cH) (q : Nat) (ys : List Nat) (s : Nat) : cH := (hTh e, hZ e, hTg e, hTm e, hNp e + 1, hNb e + (ys.length - s), updN (hLn e) (q / 8) (ys.length - s), pcs (hXs e) q ys s (ys.length - s))
def wholeB (e : cH) : Bool := decide (hTh e = true ∧ hNb e = hZ e)
/-- how it ends: the answer, how many are put together anew, the heaps, the packet -/
abbrev pR : Type := Nat × Nat × (Nat → cH) × Option (List Nat)
def finP (a k : Nat) (c : Nat → cH) (e : cH) : pR := if wholeB e = true then (2, a, setH c k (endH e), some (hXs e)) else (1, a, setH c k e, none)
def partP (ck : Nat) (c : Nat → cH) (z t q : Nat) (ys : List Nat) (s : Nat) : pR :=
  if isOfB (c (idxH z t c)) z t = true then
    if hLn (c (idxH z t c)) (q / 8) = ys.length - s then (0, 0, c, none)
    else if hitB (hLn (c (idxH z t c))) q (ys.length - s) = true then finP 1 (idxH z t c) c (keepH (newH z t ck) q ys s)
    else finP 0 (idxH z t c) c (keepH (c (idxH z t c)) q ys s)
  else if hTh (c (idxH z t c)) = true then (0, 0, c, none)
  else finP 0 (idxH z t c) c (keepH (newH z t ck) q ys s)
def lateN (ck : Nat) (c : Nat → cH) : Nat := sumN (fun j => if lateH ck (c j) = true then 1 else 0) 3
/-- what the receiver leaves as it was -/
def lF (S S' : tw_S) : Prop := (∀ r, r ≠ 3 → r ≠ 10 → r < 22 ∨ 34 ≤ r → tw_R S' r = tw_R S r) ∧ (∀ r k, r ≠ 9 → r ≠ 19 → r < 22 ∨ 34 ≤ r → tw_I S' r k = tw_I S r k) ∧ tw_J S' = tw_J S ∧ (∀ r, r < 22 ∨ 34 ≤ r → tw_A S' r = tw_A S r) ∧ tw_B S' = tw_B S
theorem lF_rf (S : tw_S) : lF S S := ⟨fun _ _ _ _ => rfl, fun _ _ _ _ _ => rfl, rfl, fun _ _ => rfl, rfl⟩
theorem lF_tr {S S1 S2 : tw_S} (h : lF S S1) (g : lF S1 S2) : lF S S2 := ⟨fun r a b d => (g.1 r a b d).trans (h.1 r a b d), fun r k a b d => (g.2.1 r k a b d).trans (h.2.1 r k a b d), g.2.2.1.trans h.2.2.1, fun r a => (g.2.2.2.1 r a).trans (h.2.2.2.1 r a), g.2.2.2.2.trans h.2.2.2.2⟩
theorem lF_iF {S S' : tw_S} (h : iF S S') : lF S S' := ⟨fun r _ _ _ => by rw [h.1], fun r k a b d => h.2.2.2.2.2 r k b (by omega), h.2.1, fun r _ => by rw [h.2.2.1], h.2.2.2.1⟩
theorem lF_hF {S S' : tw_S} {i : Nat} (hi : i < 3) (h : hF (22 + 4 * i) S S') : lF S S' := ⟨fun r _ _ d => h.1 r (by omega), fun r k _ _ d => h.2.1 r k (by omega), h.2.2.1, fun r d => h.2.2.2.1 r (by omega), h.2.2.2.2⟩
theorem lF_19 {S S' : tw_S} {k : Nat} {x : Int32} (h : lF S S') : lF S (tw_uI S' 19 k x) := ⟨h.1, fun r j a b d => by rw [← h.2.1 r j a b d, tq_I_uI, if_neg (by omega)], h.2.2.1, h.2.2.2.1, h.2.2.2.2⟩
theorem lF_uR {S S' : tw_S} {r : Nat} {x : List Nat} (hr : r = 3 ∨ r = 10) (h : lF S S') : lF S (tw_uR S' r x) := ⟨fun q a b d => by rw [tq_uR_ne _ _ (by omega)]; exact h.1 q a b d, h.2.1, h.2.2.1, h.2.2.2.1, h.2.2.2.2⟩
theorem lF_end {S S' : tw_S} {i : Nat} {x : Int32} (hi : i < 3) (h : lF S S') : lF S (tw_uI S' (22 + 4 * i) 2 x) := ⟨h.1, fun r j a b d => by rw [← h.2.1 r j a b d, tq_I_uI, if_neg (by omega)], h.2.2.1, h.2.2.2.1, h.2.2.2.2⟩
theorem HBv_new {z t ck : Nat} (hz : z ≤ 600) (ht : t < 65536) (hc : ck < 2 ^ 20) : HBv (newH z t ck) := ⟨show z < 2 ^ 20 by omega, show t < 2 ^ 20 by omega, hc, show 0 < 2 ^ 20 by decide, show 0 < 2 ^ 20 by decide, fun _ => show 0 < 2 ^ 20 by decide⟩
theorem HBv_keep {e : cH} {q s : Nat} {ys : List Nat} (h : HBv e) (hp : hNp e < 2 ^ 19) (hb : hNb e < 2 ^ 19) (hl : ys.length ≤ 640) : HBv (keepH e q ys s) := ⟨h.1, h.2.1, h.2.2.1, show hNp e + 1 < 2 ^ 20 by omega, show hNb e + (ys.length - s) < 2 ^ 20 by omega, fun k => show updN (hLn e) (q / 8) (ys.length - s) k < 2 ^ 20 by
  unfold updN
  split
  · omega
  · exact h.2.2.2.2.2 k⟩
theorem setH_setH (c : Nat → cH) (k : Nat) (e f : cH) : setH (setH c k e) k f = setH c k f := by
  funext j
  unfold setH
  split <;> rfl
theorem setH_at (c : Nat → cH) (k : Nat) (e : cH) : setH c k e k = e := if_pos rfl
theorem setH_self (c : Nat → cH) (k : Nat) : setH c k (c k) = c := by
  funext j
  unfold setH
  split
  · rename_i h
    rw [h]
  · rfl
/-- from the heap's choice on: what the end must bring, over what stands before it -/
def tlP (k a : Nat) (c : Nat → cH) (e : cH) (S3 : tw_S) (v : Int32) (S5 : tw_S) : Prop := v = nI (finP a k c e).1 ∧ HS S5 (finP a k c e).2.2.1 ∧ (∀ j, tw_I S5 19 j = tw_I S3 19 j) ∧ tw_R S5 3 = (match (finP a k c e).2.2.2 with | some p => p.take 640 | none => tw_R S3 3) ∧ lF S3 S5
set_option maxHeartbeats 1000000 in
theorem c_X6_hearsPart {G : tw_G} (hG : tw_cG G) {S : tw_S} {c : Nat → cH} (hS : HS S c) {ck la an : Nat} (hck0 : tw_I S 19 2 = nI ck) (hckb : ck < 2 ^ 20) (hl0 : tw_I S 19 5 = nI la) (ha0 : tw_I S 19 6 = nI an) (hnb : ∀ i, i < 3 → hNp (c i) < 2 ^ 19 ∧ hNb (c i) < 2 ^ 19) {f : Nat} (hf : tw_isRow f = true) {fs : List Nat} (hfs : tw_R S f = fs) (hfb : ∀ x ∈ fs, x < 256) {o : Nat} (ho : tw_isRow o = true) (hoo : o < 22 ∨ 34 ≤ o) {ys : List Nat} (hys : tw_R S o = ys) (hyl : ys.length ≤ 640) {q s : Nat} (hq : q < 2 ^ 20) (hs : s < ys.length) : tw_M G yX6_hearsPart cX6_hearsPart 11 (some .int) 3 67 [.ref (tw_ad G 19), .ref (tw_ad G f), .int (nI q), .ref (tw_ad G o), .int (nI s), .ref (tw_ad G 3)] S ri_I (fun v S' => if okPB (zF fs) q (ys.length - s) = true then v = nI (partP ck (fun j => dropH ck (c j)) (zF fs) (tF fs) q ys s).1 ∧ HS S' (partP ck (fun j => dropH ck (c j)) (zF fs) (tF fs) q ys s).2.2.1 ∧ tw_I S' 19 2 = nI ck ∧ tw_I S' 19 3 = tw_I S 19 3 ∧ tw_I S' 19 4 = tw_I S 19 4 ∧ tw_I S' 19 5 = nI (la + lateN ck c) ∧ tw_I S' 19 6 = nI (an + (partP ck (fun j => dropH ck (c j)) (zF fs) (tF fs) q ys s).2.1) ∧ tw_R S' 3 = (match (partP ck (fun j => dropH ck (c j)) (zF fs) (tF fs) q ys s).2.2.2 with | some p => p.take 640 | none => tw_R S 3) ∧ lF S S' else v = nI 0 ∧ S = S') := by
  refine tw_M.of (L := [(0, .ref (tw_ad G 19)), (1, .ref (tw_ad G f)), (2, .int (nI q)), (3, .ref (tw_ad G o)), (4, .int (nI s)), (5, .ref (tw_ad G 3))]) (by decide) (Nat.le_of_ble_eq_true rfl) rfl (fun X C N Q => ?_)
  have C : tw_C G X cX6_hearsPart RX6 := C
  have ht1 : tF fs < 65536 := nb_lt16 hfb 2
  have hz1 : zF fs < 2048 := Nat.mod_lt _ (by decide)
  refine tw_aload_n C dX6_hearsPart_0 1 rfl ?_
  refine tw_callS (As := [.ref (tw_ad G f)]) (rest := []) C N (c_X6_zOf hG (S := S) hf (fs := fs) hfs) mm_X6_zOf wd_488 rfl (by decide) rfl (Nat.le_of_ble_eq_true rfl) dX6_hearsPart_1 ?_
  rintro _ _ ⟨rfl, rfl⟩
  show TW G X S [(0, .ref (tw_ad G 19)), (1, .ref (tw_ad G f)), (2, .int (nI q)), (3, .ref (tw_ad G o)), (4, .int (nI s)), (5, .ref (tw_ad G 3))] 4 [.int (nI (zF fs))]
  refine tw_istore (L' := [(6, .int (nI (zF fs))), (0, .ref (tw_ad G 19)), (1, .ref (tw_ad G f)), (2, .int (nI q)), (3, .ref (tw_ad G o)), (4, .int (nI s)), (5, .ref (tw_ad G 3))]) C N dX6_hearsPart_4 (i := 6) (by decide) rfl ?_
  refine tw_aload_n C dX6_hearsPart_6 2 rfl ?_
  refine tw_iconst C dX6_hearsPart_7 (v := nI 2) (by decide) ?_
  refine tw_iconst C dX6_hearsPart_8 (v := nI 2) (by decide) ?_
  refine tw_callV (As := [.int (nI 2), .int (nI 2)]) (rest := []) C N (e_X7_number hG (S := S) hf (xs := fs) hfs (f := 2) (i := 2) (by omega) (by omega)) mm_X7_number wd_491 rfl (hG _ (tw_row_lt hf).2) (tw_row_sh hf) rfl (by decide) rfl (Nat.le_of_ble_eq_true rfl) dX6_hearsPart_9 ?_
  rintro _ _ ⟨rfl, rfl⟩
  show TW G X S [(6, .int (nI (zF fs))), (0, .ref (tw_ad G 19)), (1, .ref (tw_ad G f)), (2, .int (nI q)), (3, .ref (tw_ad G o)), (4, .int (nI s)), (5, .ref (tw_ad G 3))] 12 [.long (lN (nb fs 2 2))]
  refine tw_l2i C dX6_hearsPart_12 (v := nI (nb fs 2 2)) (lN_i32 _) ?_
  show TW G X S [(6, .int (nI (zF fs))), (0, .ref (tw_ad G 19)), (1, .ref (tw_ad G f)), (2, .int (nI q)), (3, .ref (tw_ad G o)), (4, .int (nI s)), (5, .ref (tw_ad G 3))] 13 [.int (nI (tF fs))]
  refine tw_istore (L' := [(7, .int (nI (tF fs))), (6, .int (nI (zF fs))), (0, .ref (tw_ad G 19)), (1, .ref (tw_ad G f)), (2, .int (nI q)), (3, .ref (tw_ad G o)), (4, .int (nI s)), (5, .ref (tw_ad G 3))]) C N dX6_hearsPart_13 (i := 7) (by decide) rfl ?_
  refine tw_aload_n C dX6_hearsPart_15 5 rfl ?_
  refine tw_callV (As := []) (rest := []) C N (e_X7_length hG (S := S) ho (xs := ys) hys ) mm_X7_length wd_483 rfl (hG _ (tw_row_lt ho).2) (tw_row_sh ho) rfl (by decide) rfl (Nat.le_of_ble_eq_true rfl) dX6_hearsPart_16 ?_
  rintro _ _ ⟨rfl, rfl⟩
  show TW G X S [(7, .int (nI (tF fs))), (6, .int (nI (zF fs))), (0, .ref (tw_ad G 19)), (1, .ref (tw_ad G f)), (2, .int (nI q)), (3, .ref (tw_ad G o)), (4, .int (nI s)), (5, .ref (tw_ad G 3))] 19 [.int (nI ys.length)]
  refine tw_iload C dX6_hearsPart_19 6 rfl ?_
  refine tw_isub C dX6_hearsPart_21 (v := nI (ys.length - s)) (pk_sub (by omega)) ?_
  refine tw_istore (L' := [(8, .int (nI (ys.length - s))), (7, .int (nI (tF fs))), (6, .int (nI (zF fs))), (0, .ref (tw_ad G 19)), (1, .ref (tw_ad G f)), (2, .int (nI q)), (3, .ref (tw_ad G o)), (4, .int (nI s)), (5, .ref (tw_ad G 3))]) C N dX6_hearsPart_22 (i := 8) (by decide) rfl ?_
  refine tw_iload_n C dX6_hearsPart_24 5 rfl ?_
  refine tw_iload C dX6_hearsPart_25 0 rfl ?_
  refine tw_iadd C dX6_hearsPart_27 (v := nI (q + (ys.length - s))) (nI_add _ _) ?_
  refine tw_istore (L' := [(9, .int (nI (q + (ys.length - s)))), (8, .int (nI (ys.length - s))), (7, .int (nI (tF fs))), (6, .int (nI (zF fs))), (0, .ref (tw_ad G 19)), (1, .ref (tw_ad G f)), (2, .int (nI q)), (3, .ref (tw_ad G o)), (4, .int (nI s)), (5, .ref (tw_ad G 3))]) C N dX6_hearsPart_28 (i := 9) (by decide) rfl ?_
  refine tw_iload C dX6_hearsPart_30 3 rfl ?_
  refine tw_bipush C dX6_hearsPart_32 (v := nI 40) (by decide) ?_
  refine tn_icmp_lt C dX6_hearsPart_34 (tgt := 67) (by decide) (by omega) (by omega) (fun c4 => ?_) (fun c4 => ?_)
  · skip
    refine tw_iconst C dX6_hearsPart_67 (v := nI 0) (by decide) ?_
    exact tw_ireturn C Q dX6_hearsPart_68 rfl rfl rfl (by rw [if_neg (by rw [okPB_iff]; unfold okP; omega)]; exact ⟨rfl, rfl⟩)
  · skip
    refine tw_iload C dX6_hearsPart_37 3 rfl ?_
    refine tw_sipush C dX6_hearsPart_39 (v := nI 600) (by decide) ?_
    refine tn_icmp_gt C dX6_hearsPart_42 (tgt := 67) (by decide) (by omega) (by omega) (fun c5 => ?_) (fun c5 => ?_)
    · skip
      refine tw_iconst C dX6_hearsPart_67 (v := nI 0) (by decide) ?_
      exact tw_ireturn C Q dX6_hearsPart_68 rfl rfl rfl (by rw [if_neg (by rw [okPB_iff]; unfold okP; omega)]; exact ⟨rfl, rfl⟩)
    · skip
      refine tw_iload C dX6_hearsPart_45 0 rfl ?_
      refine tw_iload C dX6_hearsPart_47 3 rfl ?_
      refine tn_icmp_gt C dX6_hearsPart_49 (tgt := 67) (by decide) (by omega) (by omega) (fun c6 => ?_) (fun c6 => ?_)
      · skip
        refine tw_iconst C dX6_hearsPart_67 (v := nI 0) (by decide) ?_
        exact tw_ireturn C Q dX6_hearsPart_68 rfl rfl rfl (by rw [if_neg (by rw [okPB_iff]; unfold okP; omega)]; exact ⟨rfl, rfl⟩)
      · skip
        refine tw_iload C dX6_hearsPart_52 0 rfl ?_
        refine tw_bipush C dX6_hearsPart_54 (v := nI 8) (by decide) ?_
        refine tw_irem C dX6_hearsPart_56 (by decide) (v := nI ((q + (ys.length - s)) % 8)) (pk_rem (by omega) (by decide) (by decide)) ?_
        refine tn_if_eq C dX6_hearsPart_57 (tgt := 69) (by decide) (by omega) (fun c7 => ?_) (fun c7 => ?_)
        · skip
          have hok : okPB (zF fs) q (ys.length - s) = true := okPB_iff.mpr ⟨by omega, by omega, by omega, by omega⟩
          refine tw_aload_n C dX6_hearsPart_69 4 rfl ?_
          refine tw_callV (As := []) (rest := []) C N (c_X6_dropLateHeaps hG (S := S) hS hck0 hckb hl0) mm_X6_dropLateHeaps wd_498 rfl (hG 19 (by decide)) sh_19 rfl (by decide) rfl (Nat.le_of_ble_eq_true rfl) dX6_hearsPart_70 ?_
          rintro _ S1 ⟨hS1, hl1, hi1⟩
          show TW G X S1 [(9, .int (nI (q + (ys.length - s)))), (8, .int (nI (ys.length - s))), (7, .int (nI (tF fs))), (6, .int (nI (zF fs))), (0, .ref (tw_ad G 19)), (1, .ref (tw_ad G f)), (2, .int (nI q)), (3, .ref (tw_ad G o)), (4, .int (nI s)), (5, .ref (tw_ad G 3))] 73 []
          have hck1 : tw_I S1 19 2 = nI ck := (hi1.2.2.2.2.1 2 (by decide)).trans hck0
          have han1 : tw_I S1 19 6 = nI an := (hi1.2.2.2.2.1 6 (by decide)).trans ha0
          have hy1 : tw_R S1 o = ys := by rw [hi1.1]; exact hys
          have hnb1 : ∀ i, i < 3 → hNp (dropH ck (c i)) < 2 ^ 19 ∧ hNb (dropH ck (c i)) < 2 ^ 19 := fun i hi => by
            unfold dropH
            split
            · exact hnb i hi
            · exact hnb i hi
          have hk := idxH_lt (zF fs) (tF fs) (fun j => dropH ck (c j))
          obtain ⟨k, hkd⟩ : ∃ k, k = idxH (zF fs) (tF fs) (fun j => dropH ck (c j)) := ⟨_, rfl⟩
          obtain ⟨c1, hc1⟩ : ∃ c1 : Nat → cH, c1 = (fun j => dropH ck (c j)) := ⟨_, rfl⟩
          have hnb2 : ∀ i, i < 3 → hNp (c1 i) < 2 ^ 19 ∧ hNb (c1 i) < 2 ^ 19 := by rw [hc1]; exact hnb1
          rw [← hc1] at hS1 hk hkd
          rw [← hkd] at hk
          obtain ⟨POST, hPOST⟩ : ∃ P : Int32 → tw_S → Prop, P = (fun v S' => if okPB (zF fs) q (ys.length - s) = true then v = nI (partP ck (fun j => dropH ck (c j)) (zF fs) (tF fs) q ys s).1 ∧ HS S' (partP ck (fun j => dropH ck (c j)) (zF fs) (tF fs) q ys s).2.2.1 ∧ tw_I S' 19 2 = nI ck ∧ tw_I S' 19 3 = tw_I S 19 3 ∧ tw_I S' 19 4 = tw_I S 19 4 ∧ tw_I S' 19 5 = nI (la + lateN ck c) ∧ tw_I S' 19 6 = nI (an + (partP ck (fun j => dropH ck (c j)) (zF fs) (tF fs) q ys s).2.1) ∧ tw_R S' 3 = (match (partP ck (fun j => dropH ck (c j)) (zF fs) (tF fs) q ys s).2.2.2 with | some p => p.take 640 | none => tw_R S 3) ∧ lF S S' else v = nI 0 ∧ S = S') := ⟨_, rfl⟩
          rw [← hPOST] at Q
          have tail : ∀ (S3 : tw_S) (e : cH) (a : Nat) (_ : HV S3 (22 + 4 * k) e) (_ : HBv e) (_ : hNp e < 2 ^ 19) (_ : hNb e < 2 ^ 19) (_ : HS S3 (setH c1 k e)) (_ : tw_R S3 o = ys) (_ : ∀ v S5, tlP k a c1 (keepH e q ys s) S3 v S5 → POST v S5), TW G X S3 [(10, .ref (tw_ad G (22 + 4 * k))), (9, .int (nI (q + (ys.length - s)))), (8, .int (nI (ys.length - s))), (7, .int (nI (tF fs))), (6, .int (nI (zF fs))), (0, .ref (tw_ad G 19)), (1, .ref (tw_ad G f)), (2, .int (nI q)), (3, .ref (tw_ad G o)), (4, .int (nI s)), (5, .ref (tw_ad G 3))] 173 [] := by
            intro S3 e a hV3 hB3 hp3 hn3 h3 hy3 hpost
            refine tw_aload C dX6_hearsPart_173 0 rfl ?_
            refine tw_iload_n C dX6_hearsPart_175 7 rfl ?_
            refine tw_aload_n C dX6_hearsPart_176 8 rfl ?_
            refine tw_iload C dX6_hearsPart_177 9 rfl ?_
            refine tw_callV (As := [.int (nI q), .ref (tw_ad G o), .int (nI s)]) (rest := []) C N (c_X2_keep hG (S := S3) (tw_hI hk) hV3 hB3 ho (by omega) (ys := ys) hy3 (q := q) (s := s) (by omega) (by omega) hyl) mm_X2_keep wd_542 rfl (hG _ (by omega)) (tw_hp (tw_hI hk)).2.2.1 rfl (by decide) rfl (Nat.le_of_ble_eq_true rfl) dX6_hearsPart_179 ?_
            rintro _ S4 ⟨hk1, hf4⟩
            show TW G X S4 [(10, .ref (tw_ad G (22 + 4 * k))), (9, .int (nI (q + (ys.length - s)))), (8, .int (nI (ys.length - s))), (7, .int (nI (tF fs))), (6, .int (nI (zF fs))), (0, .ref (tw_ad G 19)), (1, .ref (tw_ad G f)), (2, .int (nI q)), (3, .ref (tw_ad G o)), (4, .int (nI s)), (5, .ref (tw_ad G 3))] 182 []
            have hV4 : HV S4 (22 + 4 * k) (keepH e q ys s) := hk1
            have hB4 : HBv (keepH e q ys s) := HBv_keep hB3 hp3 hn3 hyl
            refine tw_aload C dX6_hearsPart_182 0 rfl ?_
            refine tw_callV (As := []) (rest := []) C N (c_X2_isWhole hG (S := S4) (tw_hI hk) hV4 hB4) mm_X2_isWhole wd_549 rfl (hG _ (by omega)) (tw_hp (tw_hI hk)).2.2.1 rfl (by decide) rfl (Nat.le_of_ble_eq_true rfl) dX6_hearsPart_184 ?_
            rintro _ _ ⟨rfl, rfl⟩
            show TW G X S4 [(10, .ref (tw_ad G (22 + 4 * k))), (9, .int (nI (q + (ys.length - s)))), (8, .int (nI (ys.length - s))), (7, .int (nI (tF fs))), (6, .int (nI (zF fs))), (0, .ref (tw_ad G 19)), (1, .ref (tw_ad G f)), (2, .int (nI q)), (3, .ref (tw_ad G o)), (4, .int (nI s)), (5, .ref (tw_ad G 3))] 187 [.int (bI (wholeB (keepH e q ys s)))]
            refine tb_if_ne C dX6_hearsPart_187 (tgt := 192) (by decide) (fun cw => ?_) (fun cw => ?_)
            · skip
              refine tw_aload C dX6_hearsPart_192 10 rfl ?_
              refine tw_aload C dX6_hearsPart_194 0 rfl ?_
              refine tw_callV (As := []) (rest := [.ref (tw_ad G 3)]) C N (c_X2_content hG (S := S4) (tw_hI hk)) mm_X2_content wd_553 rfl (hG _ (by omega)) (tw_hp (tw_hI hk)).2.2.1 rfl (by decide) rfl (Nat.le_of_ble_eq_true rfl) dX6_hearsPart_196 ?_
              rintro _ _ ⟨rfl, rfl⟩
              show TW G X S4 [(10, .ref (tw_ad G (22 + 4 * k))), (9, .int (nI (q + (ys.length - s)))), (8, .int (nI (ys.length - s))), (7, .int (nI (tF fs))), (6, .int (nI (zF fs))), (0, .ref (tw_ad G 19)), (1, .ref (tw_ad G f)), (2, .int (nI q)), (3, .ref (tw_ad G o)), (4, .int (nI s)), (5, .ref (tw_ad G 3))] 199 [.ref (tw_ad G (22 + 4 * k + 1)), .ref (tw_ad G 3)]
              refine tw_callV (As := [.ref (tw_ad G (22 + 4 * k + 1))]) (rest := []) C N (e_X7_become hG (S := S4) tw_row3 (tw_hp (tw_hI hk)).1 (by omega) (ys := hXs (keepH e q ys s)) hV4.2.2.2.2.2.2.2) mm_X7_become wd_482 rfl (hG 3 (by decide)) sh_3 rfl (by decide) rfl (Nat.le_of_ble_eq_true rfl) dX6_hearsPart_199 ?_
              rintro _ _ rfl
              show TW G X (tw_uR S4 3 ((hXs (keepH e q ys s)).take (tw_cap 3))) [(10, .ref (tw_ad G (22 + 4 * k))), (9, .int (nI (q + (ys.length - s)))), (8, .int (nI (ys.length - s))), (7, .int (nI (tF fs))), (6, .int (nI (zF fs))), (0, .ref (tw_ad G 19)), (1, .ref (tw_ad G f)), (2, .int (nI q)), (3, .ref (tw_ad G o)), (4, .int (nI s)), (5, .ref (tw_ad G 3))] 202 []
              refine tw_aload C dX6_hearsPart_202 0 rfl ?_
              refine tw_callV (As := []) (rest := []) C N (c_X2_end hG (S := tw_uR S4 3 ((hXs (keepH e q ys s)).take (tw_cap 3))) (tw_hI hk)) mm_X2_end wd_509 rfl (hG _ (by omega)) (tw_hp (tw_hI hk)).2.2.1 rfl (by decide) rfl (Nat.le_of_ble_eq_true rfl) dX6_hearsPart_204 ?_
              rintro _ _ rfl
              show TW G X (tw_uI (tw_uR S4 3 ((hXs (keepH e q ys s)).take (tw_cap 3))) (22 + 4 * k) 2 (bI false)) [(10, .ref (tw_ad G (22 + 4 * k))), (9, .int (nI (q + (ys.length - s)))), (8, .int (nI (ys.length - s))), (7, .int (nI (tF fs))), (6, .int (nI (zF fs))), (0, .ref (tw_ad G 19)), (1, .ref (tw_ad G f)), (2, .int (nI q)), (3, .ref (tw_ad G o)), (4, .int (nI s)), (5, .ref (tw_ad G 3))] 207 []
              refine tw_iconst C dX6_hearsPart_207 (v := nI 2) (by decide) ?_
              exact tw_ireturn C Q dX6_hearsPart_208 rfl rfl rfl (hpost _ _ (by unfold tlP; rw [finP, if_pos cw]; exact ⟨rfl, by have h5 := HS_end (HS_uR (r := 3) (x := (hXs (keepH e q ys s)).take (tw_cap 3)) (HS_put h3 hk hf4 hV4 hB4) (by decide)) hk; rwa [setH_at, setH_setH, setH_setH] at h5, fun j => by rw [tq_I_uI, if_neg (by omega)]; exact hf4.2.1 19 j (by omega), rfl, lF_end hk (lF_uR (Or.inl rfl) (lF_hF hk hf4))⟩))
            · skip
              refine tw_iconst C dX6_hearsPart_190 (v := nI 1) (by decide) ?_
              exact tw_ireturn C Q dX6_hearsPart_191 rfl rfl rfl (hpost _ S4 (by unfold tlP; rw [finP, if_neg (by rw [cw]; decide)]; exact ⟨rfl, by have h5 := HS_put h3 hk hf4 hV4 hB4; rwa [setH_setH] at h5, fun j => hf4.2.1 19 j (by omega), hf4.1 3 (by omega), lF_hF hk hf4⟩))
          have hend : ∀ (a : Nat) (e : cH) (S3 : tw_S), partP ck c1 (zF fs) (tF fs) q ys s = finP a k c1 (keepH e q ys s) → lF S S3 → (∀ j, j ≠ 6 → tw_I S3 19 j = tw_I S1 19 j) → tw_I S3 19 6 = nI (an + a) → tw_R S3 3 = tw_R S 3 → ∀ v S5, tlP k a c1 (keepH e q ys s) S3 v S5 → POST v S5 := by
            intro a e S3 h1 h2 h3 h4 h5 v S5 ht
            obtain ⟨t1, t2, t3, t4, t5⟩ := ht
            have ha : (finP a k c1 (keepH e q ys s)).2.1 = a := by
              unfold finP
              split <;> rfl
            rw [hPOST]
            show if okPB (zF fs) q (ys.length - s) = true then _ else _
            rw [if_pos hok, ← hc1, h1, ha]
            exact ⟨t1, t2, (t3 2).trans ((h3 2 (by decide)).trans hck1), (t3 3).trans ((h3 3 (by decide)).trans (hi1.2.2.2.2.1 3 (by decide))), (t3 4).trans ((h3 4 (by decide)).trans (hi1.2.2.2.2.1 4 (by decide))), (t3 5).trans ((h3 5 (by decide)).trans hl1), (t3 6).trans h4, by rw [t4, h5], lF_tr h2 t5⟩
          have hdrop : partP ck c1 (zF fs) (tF fs) q ys s = (0, 0, c1, none) → POST (nI 0) S1 := by
            intro h1
            rw [hPOST]
            show if okPB (zF fs) q (ys.length - s) = true then _ else _
            rw [if_pos hok, ← hc1, h1]
            exact ⟨rfl, hS1, hck1, hi1.2.2.2.2.1 3 (by decide), hi1.2.2.2.2.1 4 (by decide), hl1, han1, by rw [hi1.1], lF_iF hi1⟩
          refine tw_aload_n C dX6_hearsPart_73 4 rfl ?_
          refine tw_getR (q := 20) (k := 1) C dX6_hearsPart_74 fc_X6 sh_19 (hG 19 (by decide)) rfl (by decide) wd_95 ?_
          refine tw_aload_n C dX6_hearsPart_77 4 rfl ?_
          refine tw_iload C dX6_hearsPart_78 3 rfl ?_
          refine tw_iload C dX6_hearsPart_80 2 rfl ?_
          refine tw_callV (As := [.int (nI (zF fs)), .int (nI (tF fs))]) (rest := [.ref (tw_ad G 20)]) C N (c_X6_indexFor hG (S := S1) hS1 (z1 := zF fs) (t1 := tF fs) (by omega) (by omega)) mm_X6_indexFor wd_513 rfl (hG 19 (by decide)) sh_19 rfl (by decide) rfl (Nat.le_of_ble_eq_true rfl) dX6_hearsPart_82 ?_
          rintro _ _ ⟨rfl, rfl⟩
          show TW G X S1 [(9, .int (nI (q + (ys.length - s)))), (8, .int (nI (ys.length - s))), (7, .int (nI (tF fs))), (6, .int (nI (zF fs))), (0, .ref (tw_ad G 19)), (1, .ref (tw_ad G f)), (2, .int (nI q)), (3, .ref (tw_ad G o)), (4, .int (nI s)), (5, .ref (tw_ad G 3))] 85 [.int (nI (idxH (zF fs) (tF fs) c1)), .ref (tw_ad G 20)]
          rw [← hkd]
          refine tw_aald5 C dX6_hearsPart_85 sn_20 sa_20 (hG 20 (by decide)) hk (by decide) ?_
          refine tw_astore (L' := [(10, .ref (tw_ad G (22 + 4 * k))), (9, .int (nI (q + (ys.length - s)))), (8, .int (nI (ys.length - s))), (7, .int (nI (tF fs))), (6, .int (nI (zF fs))), (0, .ref (tw_ad G 19)), (1, .ref (tw_ad G f)), (2, .int (nI q)), (3, .ref (tw_ad G o)), (4, .int (nI s)), (5, .ref (tw_ad G 3))]) C N dX6_hearsPart_86 (i := 10) (by decide) rfl ?_
          refine tw_aload C dX6_hearsPart_88 0 rfl ?_
          refine tw_iload C dX6_hearsPart_90 4 rfl ?_
          refine tw_iload C dX6_hearsPart_92 3 rfl ?_
          refine tw_callV (As := [.int (nI (zF fs)), .int (nI (tF fs))]) (rest := []) C N (c_X2_isOf hG (S := S1) (tw_hI hk) (hS1 k hk).1 (hS1 k hk).2 (z1 := zF fs) (t1 := tF fs) (by omega) (by omega)) mm_X2_isOf wd_517 rfl (hG _ (by omega)) (tw_hp (tw_hI hk)).2.2.1 rfl (by decide) rfl (Nat.le_of_ble_eq_true rfl) dX6_hearsPart_94 ?_
          rintro _ _ ⟨rfl, rfl⟩
          show TW G X S1 [(10, .ref (tw_ad G (22 + 4 * k))), (9, .int (nI (q + (ys.length - s)))), (8, .int (nI (ys.length - s))), (7, .int (nI (tF fs))), (6, .int (nI (zF fs))), (0, .ref (tw_ad G 19)), (1, .ref (tw_ad G f)), (2, .int (nI q)), (3, .ref (tw_ad G o)), (4, .int (nI s)), (5, .ref (tw_ad G 3))] 97 [.int (bI (isOfB (c1 k) (zF fs) (tF fs)))]
          refine tb_if_ne C dX6_hearsPart_97 (tgt := 126) (by decide) (fun hof => ?_) (fun hof => ?_)
          · skip
            refine tw_aload C dX6_hearsPart_126 0 rfl ?_
            refine tw_iload_n C dX6_hearsPart_128 7 rfl ?_
            refine tw_iload C dX6_hearsPart_129 2 rfl ?_
            refine tw_callV (As := [.int (nI q), .int (nI (ys.length - s))]) (rest := []) C N (c_X2_hasJust hG (S := S1) (tw_hI hk) (hS1 k hk).1 (hS1 k hk).2 (q := q) (m := ys.length - s) (by omega) (by omega)) mm_X2_hasJust wd_534 rfl (hG _ (by omega)) (tw_hp (tw_hI hk)).2.2.1 rfl (by decide) rfl (Nat.le_of_ble_eq_true rfl) dX6_hearsPart_131 ?_
            rintro _ _ ⟨rfl, rfl⟩
            show TW G X S1 [(10, .ref (tw_ad G (22 + 4 * k))), (9, .int (nI (q + (ys.length - s)))), (8, .int (nI (ys.length - s))), (7, .int (nI (tF fs))), (6, .int (nI (zF fs))), (0, .ref (tw_ad G 19)), (1, .ref (tw_ad G f)), (2, .int (nI q)), (3, .ref (tw_ad G o)), (4, .int (nI s)), (5, .ref (tw_ad G 3))] 134 [.int (bI (decide (hLn (c1 k) (q / 8) = ys.length - s)))]
            refine tb_if_eq C dX6_hearsPart_134 (tgt := 139) (by decide) (fun hj => ?_) (fun hj => ?_)
            · skip
              refine tw_aload C dX6_hearsPart_139 0 rfl ?_
              refine tw_iload_n C dX6_hearsPart_141 7 rfl ?_
              refine tw_iload C dX6_hearsPart_142 2 rfl ?_
              refine tw_callV (As := [.int (nI q), .int (nI (ys.length - s))]) (rest := []) C N (c_X2_meets hG (S := S1) (tw_hI hk) (hS1 k hk).1 (hS1 k hk).2 (q := q) (m := ys.length - s) (by omega) (by omega)) mm_X2_meets wd_538 rfl (hG _ (by omega)) (tw_hp (tw_hI hk)).2.2.1 rfl (by decide) rfl (Nat.le_of_ble_eq_true rfl) dX6_hearsPart_144 ?_
              rintro _ _ ⟨rfl, rfl⟩
              show TW G X S1 [(10, .ref (tw_ad G (22 + 4 * k))), (9, .int (nI (q + (ys.length - s)))), (8, .int (nI (ys.length - s))), (7, .int (nI (tF fs))), (6, .int (nI (zF fs))), (0, .ref (tw_ad G 19)), (1, .ref (tw_ad G f)), (2, .int (nI q)), (3, .ref (tw_ad G o)), (4, .int (nI s)), (5, .ref (tw_ad G 3))] 147 [.int (bI (hitB (hLn (c1 k)) q (ys.length - s)))]
              refine tb_if_eq C dX6_hearsPart_147 (tgt := 173) (by decide) (fun hm => ?_) (fun hm => ?_)
              · skip
                refine TW.c (L' := [(10, .ref (tw_ad G (22 + 4 * k))), (9, .int (nI (q + (ys.length - s)))), (8, .int (nI (ys.length - s))), (7, .int (nI (tF fs))), (6, .int (nI (zF fs))), (0, .ref (tw_ad G 19)), (1, .ref (tw_ad G f)), (2, .int (nI q)), (3, .ref (tw_ad G o)), (4, .int (nI s)), (5, .ref (tw_ad G 3))]) (by simp) ?_
                exact tail S1 (c1 k) 0 (hS1 k hk).1 (hS1 k hk).2 (hnb2 k hk).1 (hnb2 k hk).2 (by rw [setH_self]; exact hS1) hy1 (hend 0 _ S1 (by rw [partP, ← hkd, if_pos hof, if_neg (of_decide_eq_false hj), if_neg (by rw [hm]; decide)]) (lF_iF hi1) (fun _ _ => rfl) han1 (by rw [hi1.1]))
              · skip
                refine tw_aload C dX6_hearsPart_150 0 rfl ?_
                refine tw_iload C dX6_hearsPart_152 4 rfl ?_
                refine tw_iload C dX6_hearsPart_154 3 rfl ?_
                refine tw_aload_n C dX6_hearsPart_156 5 rfl ?_
                refine tw_getI (v := nI ck) (k := 2) C dX6_hearsPart_157 fc_X6 sh_19 (hG 19 (by decide)) rfl (by decide) wd_496 hck1 ?_
                refine tw_callV (As := [.int (nI (zF fs)), .int (nI (tF fs)), .int (nI ck)]) (rest := []) C N (c_X2_begin hG (S := S1) (tw_hI hk) (z1 := zF fs) (t1 := tF fs) (u1 := ck) (by omega)) mm_X2_begin wd_527 rfl (hG _ (by omega)) (tw_hp (tw_hI hk)).2.2.1 rfl (by decide) rfl (Nat.le_of_ble_eq_true rfl) dX6_hearsPart_160 ?_
                rintro _ S2 ⟨hV2, hf2⟩
                show TW G X S2 [(10, .ref (tw_ad G (22 + 4 * k))), (9, .int (nI (q + (ys.length - s)))), (8, .int (nI (ys.length - s))), (7, .int (nI (tF fs))), (6, .int (nI (zF fs))), (0, .ref (tw_ad G 19)), (1, .ref (tw_ad G f)), (2, .int (nI q)), (3, .ref (tw_ad G o)), (4, .int (nI s)), (5, .ref (tw_ad G 3))] 163 []
                have hV2 : HV S2 (22 + 4 * k) (newH (zF fs) (tF fs) ck) := hV2
                have hB2 : HBv (newH (zF fs) (tF fs) ck) := HBv_new (by omega) (by omega) hckb
                refine tw_aload_n C dX6_hearsPart_163 5 rfl ?_
                refine tw_dup C dX6_hearsPart_164 rfl ?_
                refine tw_getI (v := nI an) (k := 6) C dX6_hearsPart_165 fc_X6 sh_19 (hG 19 (by decide)) rfl (by decide) wd_497 ((hf2.2.1 19 6 (by omega)).trans han1) ?_
                refine tw_iconst C dX6_hearsPart_168 (v := nI 1) (by decide) ?_
                refine tw_iadd C dX6_hearsPart_169 (v := nI (an + 1)) (nI_add _ _) ?_
                refine tw_putI (k := 6) C dX6_hearsPart_170 fc_X6 sh_19 (hG 19 (by decide)) rfl (by decide) rfl wd_497 rfl rfl ?_
                refine TW.c (L' := [(10, .ref (tw_ad G (22 + 4 * k))), (9, .int (nI (q + (ys.length - s)))), (8, .int (nI (ys.length - s))), (7, .int (nI (tF fs))), (6, .int (nI (zF fs))), (0, .ref (tw_ad G 19)), (1, .ref (tw_ad G f)), (2, .int (nI q)), (3, .ref (tw_ad G o)), (4, .int (nI s)), (5, .ref (tw_ad G 3))]) (by simp) ?_
                exact tail _ (newH (zF fs) (tF fs) ck) 1 (by have h0 := HS_19 (k := 6) (x := nI (an + 1)) (HS_put hS1 hk hf2 hV2 hB2) k hk; rw [setH_at] at h0; exact h0.1) hB2 (show 0 < 2 ^ 19 by decide) (show 0 < 2 ^ 19 by decide) (HS_19 (HS_put hS1 hk hf2 hV2 hB2)) ((hf2.1 o (by omega)).trans hy1) (hend 1 _ _ (by rw [partP, ← hkd, if_pos hof, if_neg (of_decide_eq_false hj), if_pos hm]) (lF_19 (lF_tr (lF_iF hi1) (lF_hF hk hf2))) (fun j hj6 => by rw [tq_I_uI, if_neg (by omega)]; exact hf2.2.1 19 j (by omega)) (by rw [tq_I_uI, if_pos ⟨rfl, rfl⟩]) ((hf2.1 3 (by omega)).trans (by rw [hi1.1])))
            · skip
              refine tw_iconst C dX6_hearsPart_137 (v := nI 0) (by decide) ?_
              exact tw_ireturn C Q dX6_hearsPart_138 rfl rfl rfl (hdrop (by rw [partP, ← hkd, if_pos hof, if_pos (of_decide_eq_true hj)]))
          · skip
            refine tw_aload C dX6_hearsPart_100 0 rfl ?_
            refine tw_callV (As := []) (rest := []) C N (c_X2_isThere hG (S := S1) (tw_hI hk) (hS1 k hk).1 (hS1 k hk).2) mm_X2_isThere wd_523 rfl (hG _ (by omega)) (tw_hp (tw_hI hk)).2.2.1 rfl (by decide) rfl (Nat.le_of_ble_eq_true rfl) dX6_hearsPart_102 ?_
            rintro _ _ ⟨rfl, rfl⟩
            show TW G X S1 [(10, .ref (tw_ad G (22 + 4 * k))), (9, .int (nI (q + (ys.length - s)))), (8, .int (nI (ys.length - s))), (7, .int (nI (tF fs))), (6, .int (nI (zF fs))), (0, .ref (tw_ad G 19)), (1, .ref (tw_ad G f)), (2, .int (nI q)), (3, .ref (tw_ad G o)), (4, .int (nI s)), (5, .ref (tw_ad G 3))] 105 [.int (bI (hTh (c1 k)))]
            refine tb_if_eq C dX6_hearsPart_105 (tgt := 110) (by decide) (fun hth => ?_) (fun hth => ?_)
            · skip
              refine tw_aload C dX6_hearsPart_110 0 rfl ?_
              refine tw_iload C dX6_hearsPart_112 4 rfl ?_
              refine tw_iload C dX6_hearsPart_114 3 rfl ?_
              refine tw_aload_n C dX6_hearsPart_116 5 rfl ?_
              refine tw_getI (v := nI ck) (k := 2) C dX6_hearsPart_117 fc_X6 sh_19 (hG 19 (by decide)) rfl (by decide) wd_496 hck1 ?_
              refine tw_callV (As := [.int (nI (zF fs)), .int (nI (tF fs)), .int (nI ck)]) (rest := []) C N (c_X2_begin hG (S := S1) (tw_hI hk) (z1 := zF fs) (t1 := tF fs) (u1 := ck) (by omega)) mm_X2_begin wd_527 rfl (hG _ (by omega)) (tw_hp (tw_hI hk)).2.2.1 rfl (by decide) rfl (Nat.le_of_ble_eq_true rfl) dX6_hearsPart_120 ?_
              rintro _ S2 ⟨hV2, hf2⟩
              show TW G X S2 [(10, .ref (tw_ad G (22 + 4 * k))), (9, .int (nI (q + (ys.length - s)))), (8, .int (nI (ys.length - s))), (7, .int (nI (tF fs))), (6, .int (nI (zF fs))), (0, .ref (tw_ad G 19)), (1, .ref (tw_ad G f)), (2, .int (nI q)), (3, .ref (tw_ad G o)), (4, .int (nI s)), (5, .ref (tw_ad G 3))] 123 []
              have hV2 : HV S2 (22 + 4 * k) (newH (zF fs) (tF fs) ck) := hV2
              have hB2 : HBv (newH (zF fs) (tF fs) ck) := HBv_new (by omega) (by omega) hckb
              refine tw_goto C dX6_hearsPart_123 (tgt := 173) (by decide) ?_
              refine TW.c (L' := [(10, .ref (tw_ad G (22 + 4 * k))), (9, .int (nI (q + (ys.length - s)))), (8, .int (nI (ys.length - s))), (7, .int (nI (tF fs))), (6, .int (nI (zF fs))), (0, .ref (tw_ad G 19)), (1, .ref (tw_ad G f)), (2, .int (nI q)), (3, .ref (tw_ad G o)), (4, .int (nI s)), (5, .ref (tw_ad G 3))]) (by simp) ?_
              exact tail S2 (newH (zF fs) (tF fs) ck) 0 hV2 hB2 (show 0 < 2 ^ 19 by decide) (show 0 < 2 ^ 19 by decide) (HS_put hS1 hk hf2 hV2 hB2) ((hf2.1 o (by omega)).trans hy1) (hend 0 _ S2 (by rw [partP, ← hkd, if_neg (by rw [hof]; decide), if_neg (by rw [hth]; decide)]) (lF_tr (lF_iF hi1) (lF_hF hk hf2)) (fun j _ => hf2.2.1 19 j (by omega)) ((hf2.2.1 19 6 (by omega)).trans han1) ((hf2.1 3 (by omega)).trans (by rw [hi1.1])))
            · skip
              refine tw_iconst C dX6_hearsPart_108 (v := nI 0) (by decide) ?_
              exact tw_ireturn C Q dX6_hearsPart_109 rfl rfl rfl (hdrop (by rw [partP, ← hkd, if_neg (by rw [hof]; decide), if_pos hth]))
        · skip
          refine tw_iload C dX6_hearsPart_60 0 rfl ?_
          refine tw_iload C dX6_hearsPart_62 3 rfl ?_
          refine tn_icmp_eq C dX6_hearsPart_64 (tgt := 69) (by decide) (by omega) (by omega) (fun c16 => ?_) (fun c16 => ?_)
          · skip
            have hok : okPB (zF fs) q (ys.length - s) = true := okPB_iff.mpr ⟨by omega, by omega, by omega, by omega⟩
            refine tw_aload_n C dX6_hearsPart_69 4 rfl ?_
            refine tw_callV (As := []) (rest := []) C N (c_X6_dropLateHeaps hG (S := S) hS hck0 hckb hl0) mm_X6_dropLateHeaps wd_498 rfl (hG 19 (by decide)) sh_19 rfl (by decide) rfl (Nat.le_of_ble_eq_true rfl) dX6_hearsPart_70 ?_
            rintro _ S1 ⟨hS1, hl1, hi1⟩
            show TW G X S1 [(9, .int (nI (q + (ys.length - s)))), (8, .int (nI (ys.length - s))), (7, .int (nI (tF fs))), (6, .int (nI (zF fs))), (0, .ref (tw_ad G 19)), (1, .ref (tw_ad G f)), (2, .int (nI q)), (3, .ref (tw_ad G o)), (4, .int (nI s)), (5, .ref (tw_ad G 3))] 73 []
            have hck1 : tw_I S1 19 2 = nI ck := (hi1.2.2.2.2.1 2 (by decide)).trans hck0
            have han1 : tw_I S1 19 6 = nI an := (hi1.2.2.2.2.1 6 (by decide)).trans ha0
            have hy1 : tw_R S1 o = ys := by rw [hi1.1]; exact hys
            have hnb1 : ∀ i, i < 3 → hNp (dropH ck (c i)) < 2 ^ 19 ∧ hNb (dropH ck (c i)) < 2 ^ 19 := fun i hi => by
              unfold dropH
              split
              · exact hnb i hi
              · exact hnb i hi
            have hk := idxH_lt (zF fs) (tF fs) (fun j => dropH ck (c j))
            obtain ⟨k, hkd⟩ : ∃ k, k = idxH (zF fs) (tF fs) (fun j => dropH ck (c j)) := ⟨_, rfl⟩
            obtain ⟨c1, hc1⟩ : ∃ c1 : Nat → cH, c1 = (fun j => dropH ck (c j)) := ⟨_, rfl⟩
            have hnb2 : ∀ i, i < 3 → hNp (c1 i) < 2 ^ 19 ∧ hNb (c1 i) < 2 ^ 19 := by rw [hc1]; exact hnb1
            rw [← hc1] at hS1 hk hkd
            rw [← hkd] at hk
            obtain ⟨POST, hPOST⟩ : ∃ P : Int32 → tw_S → Prop, P = (fun v S' => if okPB (zF fs) q (ys.length - s) = true then v = nI (partP ck (fun j => dropH ck (c j)) (zF fs) (tF fs) q ys s).1 ∧ HS S' (partP ck (fun j => dropH ck (c j)) (zF fs) (tF fs) q ys s).2.2.1 ∧ tw_I S' 19 2 = nI ck ∧ tw_I S' 19 3 = tw_I S 19 3 ∧ tw_I S' 19 4 = tw_I S 19 4 ∧ tw_I S' 19 5 = nI (la + lateN ck c) ∧ tw_I S' 19 6 = nI (an + (partP ck (fun j => dropH ck (c j)) (zF fs) (tF fs) q ys s).2.1) ∧ tw_R S' 3 = (match (partP ck (fun j => dropH ck (c j)) (zF fs) (tF fs) q ys s).2.2.2 with | some p => p.take 640 | none => tw_R S 3) ∧ lF S S' else v = nI 0 ∧ S = S') := ⟨_, rfl⟩
            rw [← hPOST] at Q
            have tail : ∀ (S3 : tw_S) (e : cH) (a : Nat) (_ : HV S3 (22 + 4 * k) e) (_ : HBv e) (_ : hNp e < 2 ^ 19) (_ : hNb e < 2 ^ 19) (_ : HS S3 (setH c1 k e)) (_ : tw_R S3 o = ys) (_ : ∀ v S5, tlP k a c1 (keepH e q ys s) S3 v S5 → POST v S5), TW G X S3 [(10, .ref (tw_ad G (22 + 4 * k))), (9, .int (nI (q + (ys.length - s)))), (8, .int (nI (ys.length - s))), (7, .int (nI (tF fs))), (6, .int (nI (zF fs))), (0, .ref (tw_ad G 19)), (1, .ref (tw_ad G f)), (2, .int (nI q)), (3, .ref (tw_ad G o)), (4, .int (nI s)), (5, .ref (tw_ad G 3))] 173 [] := by
              intro S3 e a hV3 hB3 hp3 hn3 h3 hy3 hpost
              refine tw_aload C dX6_hearsPart_173 0 rfl ?_
              refine tw_iload_n C dX6_hearsPart_175 7 rfl ?_
              refine tw_aload_n C dX6_hearsPart_176 8 rfl ?_
              refine tw_iload C dX6_hearsPart_177 9 rfl ?_
              refine tw_callV (As := [.int (nI q), .ref (tw_ad G o), .int (nI s)]) (rest := []) C N (c_X2_keep hG (S := S3) (tw_hI hk) hV3 hB3 ho (by omega) (ys := ys) hy3 (q := q) (s := s) (by omega) (by omega) hyl) mm_X2_keep wd_542 rfl (hG _ (by omega)) (tw_hp (tw_hI hk)).2.2.1 rfl (by decide) rfl (Nat.le_of_ble_eq_true rfl) dX6_hearsPart_179 ?_
              rintro _ S4 ⟨hk1, hf4⟩
              show TW G X S4 [(10, .ref (tw_ad G (22 + 4 * k))), (9, .int (nI (q + (ys.length - s)))), (8, .int (nI (ys.length - s))), (7, .int (nI (tF fs))), (6, .int (nI (zF fs))), (0, .ref (tw_ad G 19)), (1, .ref (tw_ad G f)), (2, .int (nI q)), (3, .ref (tw_ad G o)), (4, .int (nI s)), (5, .ref (tw_ad G 3))] 182 []
              have hV4 : HV S4 (22 + 4 * k) (keepH e q ys s) := hk1
              have hB4 : HBv (keepH e q ys s) := HBv_keep hB3 hp3 hn3 hyl
              refine tw_aload C dX6_hearsPart_182 0 rfl ?_
              refine tw_callV (As := []) (rest := []) C N (c_X2_isWhole hG (S := S4) (tw_hI hk) hV4 hB4) mm_X2_isWhole wd_549 rfl (hG _ (by omega)) (tw_hp (tw_hI hk)).2.2.1 rfl (by decide) rfl (Nat.le_of_ble_eq_true rfl) dX6_hearsPart_184 ?_
              rintro _ _ ⟨rfl, rfl⟩
              show TW G X S4 [(10, .ref (tw_ad G (22 + 4 * k))), (9, .int (nI (q + (ys.length - s)))), (8, .int (nI (ys.length - s))), (7, .int (nI (tF fs))), (6, .int (nI (zF fs))), (0, .ref (tw_ad G 19)), (1, .ref (tw_ad G f)), (2, .int (nI q)), (3, .ref (tw_ad G o)), (4, .int (nI s)), (5, .ref (tw_ad G 3))] 187 [.int (bI (wholeB (keepH e q ys s)))]
              refine tb_if_ne C dX6_hearsPart_187 (tgt := 192) (by decide) (fun cw => ?_) (fun cw => ?_)
              · skip
                refine tw_aload C dX6_hearsPart_192 10 rfl ?_
                refine tw_aload C dX6_hearsPart_194 0 rfl ?_
                refine tw_callV (As := []) (rest := [.ref (tw_ad G 3)]) C N (c_X2_content hG (S := S4) (tw_hI hk)) mm_X2_content wd_553 rfl (hG _ (by omega)) (tw_hp (tw_hI hk)).2.2.1 rfl (by decide) rfl (Nat.le_of_ble_eq_true rfl) dX6_hearsPart_196 ?_
                rintro _ _ ⟨rfl, rfl⟩
                show TW G X S4 [(10, .ref (tw_ad G (22 + 4 * k))), (9, .int (nI (q + (ys.length - s)))), (8, .int (nI (ys.length - s))), (7, .int (nI (tF fs))), (6, .int (nI (zF fs))), (0, .ref (tw_ad G 19)), (1, .ref (tw_ad G f)), (2, .int (nI q)), (3, .ref (tw_ad G o)), (4, .int (nI s)), (5, .ref (tw_ad G 3))] 199 [.ref (tw_ad G (22 + 4 * k + 1)), .ref (tw_ad G 3)]
                refine tw_callV (As := [.ref (tw_ad G (22 + 4 * k + 1))]) (rest := []) C N (e_X7_become hG (S := S4) tw_row3 (tw_hp (tw_hI hk)).1 (by omega) (ys := hXs (keepH e q ys s)) hV4.2.2.2.2.2.2.2) mm_X7_become wd_482 rfl (hG 3 (by decide)) sh_3 rfl (by decide) rfl (Nat.le_of_ble_eq_true rfl) dX6_hearsPart_199 ?_
                rintro _ _ rfl
                show TW G X (tw_uR S4 3 ((hXs (keepH e q ys s)).take (tw_cap 3))) [(10, .ref (tw_ad G (22 + 4 * k))), (9, .int (nI (q + (ys.length - s)))), (8, .int (nI (ys.length - s))), (7, .int (nI (tF fs))), (6, .int (nI (zF fs))), (0, .ref (tw_ad G 19)), (1, .ref (tw_ad G f)), (2, .int (nI q)), (3, .ref (tw_ad G o)), (4, .int (nI s)), (5, .ref (tw_ad G 3))] 202 []
                refine tw_aload C dX6_hearsPart_202 0 rfl ?_
                refine tw_callV (As := []) (rest := []) C N (c_X2_end hG (S := tw_uR S4 3 ((hXs (keepH e q ys s)).take (tw_cap 3))) (tw_hI hk)) mm_X2_end wd_509 rfl (hG _ (by omega)) (tw_hp (tw_hI hk)).2.2.1 rfl (by decide) rfl (Nat.le_of_ble_eq_true rfl) dX6_hearsPart_204 ?_
                rintro _ _ rfl
                show TW G X (tw_uI (tw_uR S4 3 ((hXs (keepH e q ys s)).take (tw_cap 3))) (22 + 4 * k) 2 (bI false)) [(10, .ref (tw_ad G (22 + 4 * k))), (9, .int (nI (q + (ys.length - s)))), (8, .int (nI (ys.length - s))), (7, .int (nI (tF fs))), (6, .int (nI (zF fs))), (0, .ref (tw_ad G 19)), (1, .ref (tw_ad G f)), (2, .int (nI q)), (3, .ref (tw_ad G o)), (4, .int (nI s)), (5, .ref (tw_ad G 3))] 207 []
                refine tw_iconst C dX6_hearsPart_207 (v := nI 2) (by decide) ?_
                exact tw_ireturn C Q dX6_hearsPart_208 rfl rfl rfl (hpost _ _ (by unfold tlP; rw [finP, if_pos cw]; exact ⟨rfl, by have h5 := HS_end (HS_uR (r := 3) (x := (hXs (keepH e q ys s)).take (tw_cap 3)) (HS_put h3 hk hf4 hV4 hB4) (by decide)) hk; rwa [setH_at, setH_setH, setH_setH] at h5, fun j => by rw [tq_I_uI, if_neg (by omega)]; exact hf4.2.1 19 j (by omega), rfl, lF_end hk (lF_uR (Or.inl rfl) (lF_hF hk hf4))⟩))
              · skip
                refine tw_iconst C dX6_hearsPart_190 (v := nI 1) (by decide) ?_
                exact tw_ireturn C Q dX6_hearsPart_191 rfl rfl rfl (hpost _ S4 (by unfold tlP; rw [finP, if_neg (by rw [cw]; decide)]; exact ⟨rfl, by have h5 := HS_put h3 hk hf4 hV4 hB4; rwa [setH_setH] at h5, fun j => hf4.2.1 19 j (by omega), hf4.1 3 (by omega), lF_hF hk hf4⟩))
            have hend : ∀ (a : Nat) (e : cH) (S3 : tw_S), partP ck c1 (zF fs) (tF fs) q ys s = finP a k c1 (keepH e q ys s) → lF S S3 → (∀ j, j ≠ 6 → tw_I S3 19 j = tw_I S1 19 j) → tw_I S3 19 6 = nI (an + a) → tw_R S3 3 = tw_R S 3 → ∀ v S5, tlP k a c1 (keepH e q ys s) S3 v S5 → POST v S5 := by
              intro a e S3 h1 h2 h3 h4 h5 v S5 ht
              obtain ⟨t1, t2, t3, t4, t5⟩ := ht
              have ha : (finP a k c1 (keepH e q ys s)).2.1 = a := by
                unfold finP
                split <;> rfl
              rw [hPOST]
              show if okPB (zF fs) q (ys.length - s) = true then _ else _
              rw [if_pos hok, ← hc1, h1, ha]
              exact ⟨t1, t2, (t3 2).trans ((h3 2 (by decide)).trans hck1), (t3 3).trans ((h3 3 (by decide)).trans (hi1.2.2.2.2.1 3 (by decide))), (t3 4).trans ((h3 4 (by decide)).trans (hi1.2.2.2.2.1 4 (by decide))), (t3 5).trans ((h3 5 (by decide)).trans hl1), (t3 6).trans h4, by rw [t4, h5], lF_tr h2 t5⟩
            have hdrop : partP ck c1 (zF fs) (tF fs) q ys s = (0, 0, c1, none) → POST (nI 0) S1 := by
              intro h1
              rw [hPOST]
              show if okPB (zF fs) q (ys.length - s) = true then _ else _
              rw [if_pos hok, ← hc1, h1]
              exact ⟨rfl, hS1, hck1, hi1.2.2.2.2.1 3 (by decide), hi1.2.2.2.2.1 4 (by decide), hl1, han1, by rw [hi1.1], lF_iF hi1⟩
            refine tw_aload_n C dX6_hearsPart_73 4 rfl ?_
            refine tw_getR (q := 20) (k := 1) C dX6_hearsPart_74 fc_X6 sh_19 (hG 19 (by decide)) rfl (by decide) wd_95 ?_
            refine tw_aload_n C dX6_hearsPart_77 4 rfl ?_
            refine tw_iload C dX6_hearsPart_78 3 rfl ?_
            refine tw_iload C dX6_hearsPart_80 2 rfl ?_
            refine tw_callV (As := [.int (nI (zF fs)), .int (nI (tF fs))]) (rest := [.ref (tw_ad G 20)]) C N (c_X6_indexFor hG (S := S1) hS1 (z1 := zF fs) (t1 := tF fs) (by omega) (by omega)) mm_X6_indexFor wd_513 rfl (hG 19 (by decide)) sh_19 rfl (by decide) rfl (Nat.le_of_ble_eq_true rfl) dX6_hearsPart_82 ?_
            rintro _ _ ⟨rfl, rfl⟩
            show TW G X S1 [(9, .int (nI (q + (ys.length - s)))), (8, .int (nI (ys.length - s))), (7, .int (nI (tF fs))), (6, .int (nI (zF fs))), (0, .ref (tw_ad G 19)), (1, .ref (tw_ad G f)), (2, .int (nI q)), (3, .ref (tw_ad G o)), (4, .int (nI s)), (5, .ref (tw_ad G 3))] 85 [.int (nI (idxH (zF fs) (tF fs) c1)), .ref (tw_ad G 20)]
            rw [← hkd]
            refine tw_aald5 C dX6_hearsPart_85 sn_20 sa_20 (hG 20 (by decide)) hk (by decide) ?_
            refine tw_astore (L' := [(10, .ref (tw_ad G (22 + 4 * k))), (9, .int (nI (q + (ys.length - s)))), (8, .int (nI (ys.length - s))), (7, .int (nI (tF fs))), (6, .int (nI (zF fs))), (0, .ref (tw_ad G 19)), (1, .ref (tw_ad G f)), (2, .int (nI q)), (3, .ref (tw_ad G o)), (4, .int (nI s)), (5, .ref (tw_ad G 3))]) C N dX6_hearsPart_86 (i := 10) (by decide) rfl ?_
            refine tw_aload C dX6_hearsPart_88 0 rfl ?_
            refine tw_iload C dX6_hearsPart_90 4 rfl ?_
            refine tw_iload C dX6_hearsPart_92 3 rfl ?_
            refine tw_callV (As := [.int (nI (zF fs)), .int (nI (tF fs))]) (rest := []) C N (c_X2_isOf hG (S := S1) (tw_hI hk) (hS1 k hk).1 (hS1 k hk).2 (z1 := zF fs) (t1 := tF fs) (by omega) (by omega)) mm_X2_isOf wd_517 rfl (hG _ (by omega)) (tw_hp (tw_hI hk)).2.2.1 rfl (by decide) rfl (Nat.le_of_ble_eq_true rfl) dX6_hearsPart_94 ?_
            rintro _ _ ⟨rfl, rfl⟩
            show TW G X S1 [(10, .ref (tw_ad G (22 + 4 * k))), (9, .int (nI (q + (ys.length - s)))), (8, .int (nI (ys.length - s))), (7, .int (nI (tF fs))), (6, .int (nI (zF fs))), (0, .ref (tw_ad G 19)), (1, .ref (tw_ad G f)), (2, .int (nI q)), (3, .ref (tw_ad G o)), (4, .int (nI s)), (5, .ref (tw_ad G 3))] 97 [.int (bI (isOfB (c1 k) (zF fs) (tF fs)))]
            refine tb_if_ne C dX6_hearsPart_97 (tgt := 126) (by decide) (fun hof => ?_) (fun hof => ?_)
            · skip
              refine tw_aload C dX6_hearsPart_126 0 rfl ?_
              refine tw_iload_n C dX6_hearsPart_128 7 rfl ?_
              refine tw_iload C dX6_hearsPart_129 2 rfl ?_
              refine tw_callV (As := [.int (nI q), .int (nI (ys.length - s))]) (rest := []) C N (c_X2_hasJust hG (S := S1) (tw_hI hk) (hS1 k hk).1 (hS1 k hk).2 (q := q) (m := ys.length - s) (by omega) (by omega)) mm_X2_hasJust wd_534 rfl (hG _ (by omega)) (tw_hp (tw_hI hk)).2.2.1 rfl (by decide) rfl (Nat.le_of_ble_eq_true rfl) dX6_hearsPart_131 ?_
              rintro _ _ ⟨rfl, rfl⟩
              show TW G X S1 [(10, .ref (tw_ad G (22 + 4 * k))), (9, .int (nI (q + (ys.length - s)))), (8, .int (nI (ys.length - s))), (7, .int (nI (tF fs))), (6, .int (nI (zF fs))), (0, .ref (tw_ad G 19)), (1, .ref (tw_ad G f)), (2, .int (nI q)), (3, .ref (tw_ad G o)), (4, .int (nI s)), (5, .ref (tw_ad G 3))] 134 [.int (bI (decide (hLn (c1 k) (q / 8) = ys.length - s)))]
              refine tb_if_eq C dX6_hearsPart_134 (tgt := 139) (by decide) (fun hj => ?_) (fun hj => ?_)
              · skip
                refine tw_aload C dX6_hearsPart_139 0 rfl ?_
                refine tw_iload_n C dX6_hearsPart_141 7 rfl ?_
                refine tw_iload C dX6_hearsPart_142 2 rfl ?_
                refine tw_callV (As := [.int (nI q), .int (nI (ys.length - s))]) (rest := []) C N (c_X2_meets hG (S := S1) (tw_hI hk) (hS1 k hk).1 (hS1 k hk).2 (q := q) (m := ys.length - s) (by omega) (by omega)) mm_X2_meets wd_538 rfl (hG _ (by omega)) (tw_hp (tw_hI hk)).2.2.1 rfl (by decide) rfl (Nat.le_of_ble_eq_true rfl) dX6_hearsPart_144 ?_
                rintro _ _ ⟨rfl, rfl⟩
                show TW G X S1 [(10, .ref (tw_ad G (22 + 4 * k))), (9, .int (nI (q + (ys.length - s)))), (8, .int (nI (ys.length - s))), (7, .int (nI (tF fs))), (6, .int (nI (zF fs))), (0, .ref (tw_ad G 19)), (1, .ref (tw_ad G f)), (2, .int (nI q)), (3, .ref (tw_ad G o)), (4, .int (nI s)), (5, .ref (tw_ad G 3))] 147 [.int (bI (hitB (hLn (c1 k)) q (ys.length - s)))]
                refine tb_if_eq C dX6_hearsPart_147 (tgt := 173) (by decide) (fun hm => ?_) (fun hm => ?_)
                · skip
                  refine TW.c (L' := [(10, .ref (tw_ad G (22 + 4 * k))), (9, .int (nI (q + (ys.length - s)))), (8, .int (nI (ys.length - s))), (7, .int (nI (tF fs))), (6, .int (nI (zF fs))), (0, .ref (tw_ad G 19)), (1, .ref (tw_ad G f)), (2, .int (nI q)), (3, .ref (tw_ad G o)), (4, .int (nI s)), (5, .ref (tw_ad G 3))]) (by simp) ?_
                  exact tail S1 (c1 k) 0 (hS1 k hk).1 (hS1 k hk).2 (hnb2 k hk).1 (hnb2 k hk).2 (by rw [setH_self]; exact hS1) hy1 (hend 0 _ S1 (by rw [partP, ← hkd, if_pos hof, if_neg (of_decide_eq_false hj), if_neg (by rw [hm]; decide)]) (lF_iF hi1) (fun _ _ => rfl) han1 (by rw [hi1.1]))
                · skip
                  refine tw_aload C dX6_hearsPart_150 0 rfl ?_
                  refine tw_iload C dX6_hearsPart_152 4 rfl ?_
                  refine tw_iload C dX6_hearsPart_154 3 rfl ?_
                  refine tw_aload_n C dX6_hearsPart_156 5 rfl ?_
                  refine tw_getI (v := nI ck) (k := 2) C dX6_hearsPart_157 fc_X6 sh_19 (hG 19 (by decide)) rfl (by decide) wd_496 hck1 ?_
                  refine tw_callV (As := [.int (nI (zF fs)), .int (nI (tF fs)), .int (nI ck)]) (rest := []) C N (c_X2_begin hG (S := S1) (tw_hI hk) (z1 := zF fs) (t1 := tF fs) (u1 := ck) (by omega)) mm_X2_begin wd_527 rfl (hG _ (by omega)) (tw_hp (tw_hI hk)).2.2.1 rfl (by decide) rfl (Nat.le_of_ble_eq_true rfl) dX6_hearsPart_160 ?_
                  rintro _ S2 ⟨hV2, hf2⟩
                  show TW G X S2 [(10, .ref (tw_ad G (22 + 4 * k))), (9, .int (nI (q + (ys.length - s)))), (8, .int (nI (ys.length - s))), (7, .int (nI (tF fs))), (6, .int (nI (zF fs))), (0, .ref (tw_ad G 19)), (1, .ref (tw_ad G f)), (2, .int (nI q)), (3, .ref (tw_ad G o)), (4, .int (nI s)), (5, .ref (tw_ad G 3))] 163 []
                  have hV2 : HV S2 (22 + 4 * k) (newH (zF fs) (tF fs) ck) := hV2
                  have hB2 : HBv (newH (zF fs) (tF fs) ck) := HBv_new (by omega) (by omega) hckb
                  refine tw_aload_n C dX6_hearsPart_163 5 rfl ?_
                  refine tw_dup C dX6_hearsPart_164 rfl ?_
                  refine tw_getI (v := nI an) (k := 6) C dX6_hearsPart_165 fc_X6 sh_19 (hG 19 (by decide)) rfl (by decide) wd_497 ((hf2.2.1 19 6 (by omega)).trans han1) ?_
                  refine tw_iconst C dX6_hearsPart_168 (v := nI 1) (by decide) ?_
                  refine tw_iadd C dX6_hearsPart_169 (v := nI (an + 1)) (nI_add _ _) ?_
                  refine tw_putI (k := 6) C dX6_hearsPart_170 fc_X6 sh_19 (hG 19 (by decide)) rfl (by decide) rfl wd_497 rfl rfl ?_
                  refine TW.c (L' := [(10, .ref (tw_ad G (22 + 4 * k))), (9, .int (nI (q + (ys.length - s)))), (8, .int (nI (ys.length - s))), (7, .int (nI (tF fs))), (6, .int (nI (zF fs))), (0, .ref (tw_ad G 19)), (1, .ref (tw_ad G f)), (2, .int (nI q)), (3, .ref (tw_ad G o)), (4, .int (nI s)), (5, .ref (tw_ad G 3))]) (by simp) ?_
                  exact tail _ (newH (zF fs) (tF fs) ck) 1 (by have h0 := HS_19 (k := 6) (x := nI (an + 1)) (HS_put hS1 hk hf2 hV2 hB2) k hk; rw [setH_at] at h0; exact h0.1) hB2 (show 0 < 2 ^ 19 by decide) (show 0 < 2 ^ 19 by decide) (HS_19 (HS_put hS1 hk hf2 hV2 hB2)) ((hf2.1 o (by omega)).trans hy1) (hend 1 _ _ (by rw [partP, ← hkd, if_pos hof, if_neg (of_decide_eq_false hj), if_pos hm]) (lF_19 (lF_tr (lF_iF hi1) (lF_hF hk hf2))) (fun j hj6 => by rw [tq_I_uI, if_neg (by omega)]; exact hf2.2.1 19 j (by omega)) (by rw [tq_I_uI, if_pos ⟨rfl, rfl⟩]) ((hf2.1 3 (by omega)).trans (by rw [hi1.1])))
              · skip
                refine tw_iconst C dX6_hearsPart_137 (v := nI 0) (by decide) ?_
                exact tw_ireturn C Q dX6_hearsPart_138 rfl rfl rfl (hdrop (by rw [partP, ← hkd, if_pos hof, if_pos (of_decide_eq_true hj)]))
            · skip
              refine tw_aload C dX6_hearsPart_100 0 rfl ?_
              refine tw_callV (As := []) (rest := []) C N (c_X2_isThere hG (S := S1) (tw_hI hk) (hS1 k hk).1 (hS1 k hk).2) mm_X2_isThere wd_523 rfl (hG _ (by omega)) (tw_hp (tw_hI hk)).2.2.1 rfl (by decide) rfl (Nat.le_of_ble_eq_true rfl) dX6_hearsPart_102 ?_
              rintro _ _ ⟨rfl, rfl⟩
              show TW G X S1 [(10, .ref (tw_ad G (22 + 4 * k))), (9, .int (nI (q + (ys.length - s)))), (8, .int (nI (ys.length - s))), (7, .int (nI (tF fs))), (6, .int (nI (zF fs))), (0, .ref (tw_ad G 19)), (1, .ref (tw_ad G f)), (2, .int (nI q)), (3, .ref (tw_ad G o)), (4, .int (nI s)), (5, .ref (tw_ad G 3))] 105 [.int (bI (hTh (c1 k)))]
              refine tb_if_eq C dX6_hearsPart_105 (tgt := 110) (by decide) (fun hth => ?_) (fun hth => ?_)
              · skip
                refine tw_aload C dX6_hearsPart_110 0 rfl ?_
                refine tw_iload C dX6_hearsPart_112 4 rfl ?_
                refine tw_iload C dX6_hearsPart_114 3 rfl ?_
                refine tw_aload_n C dX6_hearsPart_116 5 rfl ?_
                refine tw_getI (v := nI ck) (k := 2) C dX6_hearsPart_117 fc_X6 sh_19 (hG 19 (by decide)) rfl (by decide) wd_496 hck1 ?_
                refine tw_callV (As := [.int (nI (zF fs)), .int (nI (tF fs)), .int (nI ck)]) (rest := []) C N (c_X2_begin hG (S := S1) (tw_hI hk) (z1 := zF fs) (t1 := tF fs) (u1 := ck) (by omega)) mm_X2_begin wd_527 rfl (hG _ (by omega)) (tw_hp (tw_hI hk)).2.2.1 rfl (by decide) rfl (Nat.le_of_ble_eq_true rfl) dX6_hearsPart_120 ?_
                rintro _ S2 ⟨hV2, hf2⟩
                show TW G X S2 [(10, .ref (tw_ad G (22 + 4 * k))), (9, .int (nI (q + (ys.length - s)))), (8, .int (nI (ys.length - s))), (7, .int (nI (tF fs))), (6, .int (nI (zF fs))), (0, .ref (tw_ad G 19)), (1, .ref (tw_ad G f)), (2, .int (nI q)), (3, .ref (tw_ad G o)), (4, .int (nI s)), (5, .ref (tw_ad G 3))] 123 []
                have hV2 : HV S2 (22 + 4 * k) (newH (zF fs) (tF fs) ck) := hV2
                have hB2 : HBv (newH (zF fs) (tF fs) ck) := HBv_new (by omega) (by omega) hckb
                refine tw_goto C dX6_hearsPart_123 (tgt := 173) (by decide) ?_
                refine TW.c (L' := [(10, .ref (tw_ad G (22 + 4 * k))), (9, .int (nI (q + (ys.length - s)))), (8, .int (nI (ys.length - s))), (7, .int (nI (tF fs))), (6, .int (nI (zF fs))), (0, .ref (tw_ad G 19)), (1, .ref (tw_ad G f)), (2, .int (nI q)), (3, .ref (tw_ad G o)), (4, .int (nI s)), (5, .ref (tw_ad G 3))]) (by simp) ?_
                exact tail S2 (newH (zF fs) (tF fs) ck) 0 hV2 hB2 (show 0 < 2 ^ 19 by decide) (show 0 < 2 ^ 19 by decide) (HS_put hS1 hk hf2 hV2 hB2) ((hf2.1 o (by omega)).trans hy1) (hend 0 _ S2 (by rw [partP, ← hkd, if_neg (by rw [hof]; decide), if_neg (by rw [hth]; decide)]) (lF_tr (lF_iF hi1) (lF_hF hk hf2)) (fun j _ => hf2.2.1 19 j (by omega)) ((hf2.2.1 19 6 (by omega)).trans han1) ((hf2.1 3 (by omega)).trans (by rw [hi1.1])))
              · skip
                refine tw_iconst C dX6_hearsPart_108 (v := nI 0) (by decide) ?_
                exact tw_ireturn C Q dX6_hearsPart_109 rfl rfl rfl (hdrop (by rw [partP, ← hkd, if_neg (by rw [hof]; decide), if_pos hth]))
          · skip
            refine tw_iconst C dX6_hearsPart_67 (v := nI 0) (by decide) ?_
            exact tw_ireturn C Q dX6_hearsPart_68 rfl rfl rfl (by rw [if_neg (by rw [okPB_iff]; unfold okP; omega)]; exact ⟨rfl, rfl⟩)
