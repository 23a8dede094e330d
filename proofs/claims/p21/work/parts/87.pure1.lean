/-! what was squeezed unfolds well -/
theorem be_gD {v n i : Nat} (h : i < n) : (be v n).getD i 0 = v / 2 ^ (8 * (n - 1 - i)) % 256 := by
  simp [be, List.getD_eq_getElem?_getD, h]
theorem cutD_gD {xs : List Nat} {a n i : Nat} (h : i < n) : (cutD xs a n).getD i 0 = xs.getD (a + i) 0 := by
  simp only [cutD, List.getD_eq_getElem?_getD, List.getElem?_map, List.getElem?_range h]; rfl
theorem cutD_b {bs : List Nat} (hb : ∀ x ∈ bs, x < 256) {a n x : Nat} (h : x ∈ cutD bs a n) : x < 256 := by
  simp only [cutD, List.mem_map] at h
  obtain ⟨i, -, rfl⟩ := h
  exact gD_lt hb _
theorem gD_ap {α : Type} {l m : List α} {i : Nat} {d : α} : (l ++ m).getD i d = if i < l.length then l.getD i d else m.getD (i - l.length) d := by
  split
  · rename_i h; simp [List.getD_eq_getElem?_getD, List.getElem?_append_left h]
  · rename_i h; simp [List.getD_eq_getElem?_getD, List.getElem?_append_right (show l.length ≤ i by omega)]
/-- the bytes ys stand in bs from a on -/
def AT (bs : List Nat) (a : Nat) (ys : List Nat) : Prop := a + ys.length ≤ bs.length ∧ ∀ i, i < ys.length → bs.getD (a + i) 0 = ys.getD i 0
theorem AT_ap {bs X Y : List Nat} {a : Nat} (h : AT bs a (X ++ Y)) : AT bs a X ∧ AT bs (a + X.length) Y := by
  obtain ⟨h1, h2⟩ := h
  rw [List.length_append] at h1 h2
  refine ⟨⟨by omega, fun i hi => ?_⟩, ⟨by omega, fun i hi => ?_⟩⟩
  · rw [h2 i (by omega), gD_ap, if_pos hi]
  · rw [Nat.add_assoc, h2 _ (by omega), gD_ap, if_neg (by omega), Nat.add_sub_cancel_left]
theorem AT_1 {bs : List Nat} {a x : Nat} {ys : List Nat} (h : AT bs a (x :: ys)) : bs.getD a 0 = x ∧ AT bs (a + 1) ys := by
  have h2 := AT_ap (X := [x]) (Y := ys) h
  exact ⟨by have := h2.1.2 0 (by simp); simpa using this, h2.2⟩
theorem AT_mk (P ys R : List Nat) : AT (P ++ ys ++ R) P.length ys := by
  refine ⟨by simp only [List.length_append]; omega, fun i hi => ?_⟩
  rw [gD_ap, if_pos (by rw [List.length_append]; omega), gD_ap, if_neg (by omega), Nat.add_sub_cancel_left]
theorem sqAd_l {m f l : Nat} (hm : m < 12) : (sqAd m f l).length = tabN m := by
  unfold sqAd
  split
  · rename_i h; rw [h, List.length_append, be_len, be_len]
  · split
    · rename_i h
      rw [List.length_cons, be_len]
      rcases h with rfl | rfl <;> rfl
    · rw [be_len]
theorem sqTr_l {tf t l : Nat} (h : tf < 4) : (sqTr tf t l).length = tfN tf := by
  rcases (show tf = 0 ∨ tf = 1 ∨ tf = 2 ∨ tf = 3 by omega) with rfl | rfl | rfl | rfl
  · show (sqTn t :: be l 3).length = 4; rw [List.length_cons, be_len]
  · show (be (sqTn t * 65536 + l) 3).length = 3; rw [be_len]
  · rfl
  · rfl
theorem AT_nb3 {bs : List Nat} {a v : Nat} (h : AT bs a (be v 3)) (hv : v < 2 ^ 24) : nb bs a 3 = v := by
  have e0 := h.2 0 (by rw [be_len]; decide)
  have e1 := h.2 1 (by rw [be_len]; decide)
  have e2 := h.2 2 (by rw [be_len]; decide)
  rw [be_gD (by decide)] at e0 e1 e2
  simp only [nb, e0, e1, e2]
  show ((0 * 256 + v / 2 ^ 16 % 256) * 256 + v / 2 ^ 8 % 256) * 256 + v / 2 ^ 0 % 256 = v
  omega
theorem sqTr_wr {bs : List Nat} {a t l : Nat} (hl : l < 2 ^ 20) (h : AT bs a (sqTr (sqTF t l) t l)) : uWr bs (sqTF t l) a = 0 := by
  unfold sqTF at h ⊢
  split at h
  · rename_i h1
    rw [if_pos h1]
    split <;> rfl
  · rename_i h1
    rw [if_neg h1]
    split at h
    · rename_i h2
      rw [if_pos h2]
      have h : AT bs a (be (sqTn t * 65536 + l) 3) := h
      have e0 := h.2 0 (by rw [be_len]; decide)
      rw [be_gD (by decide), Nat.add_zero] at e0
      show bs.getD a 0 / 16 % 4 = 0
      rw [e0]
      show (sqTn t * 65536 + l) / 2 ^ 16 % 256 / 16 % 4 = 0
      have e1 : sqTn t = t % 4 * 64 := by unfold sqTn; omega
      rw [e1]
      omega
    · rename_i h2
      rw [if_neg h2]
      have h : AT bs a (sqTn t :: be l 3) := h
      show nb bs (a + 1) 3 / 1048576 = 0
      rw [AT_nb3 (AT_1 h).2 (by omega)]
      omega
theorem sqPo_u (a b c : Nat) : ∃ p ys, sqPo a b c = (240 + p) :: ys ∧ p ≤ 3 ∧ ys.length = pfN p + 2 := by
  unfold sqPo
  split
  · exact ⟨3, _, rfl, by decide, by simp [be_len, pfN]⟩
  · split
    · exact ⟨1, _, rfl, by decide, by simp [be_len, pfN]⟩
    · split
      · exact ⟨2, _, rfl, by decide, by simp [be_len, pfN]⟩
      · exact ⟨0, _, rfl, by decide, by simp [be_len, pfN]⟩
theorem sqB1_u : ∀ tf, tf < 4 → ∀ hl, hl < 4 → ∀ p : Bool, sqB1 tf hl p / 32 = 3 ∧ uTF (sqB1 tf hl p) = tf ∧ uPo (sqB1 tf hl p) = p ∧ uHL (sqB1 tf hl p) = hl := by decide +kernel
theorem sqB2_u {c src goal : Nat} (h1 : src < 8) (h2 : goal < 16) : uSrc (sqB2 c src goal) = src ∧ uGoal (sqB2 c src goal) = goal ∧ (sqB2 c src goal / 128 = if c = 0 then 0 else 1) := by
  unfold uSrc uGoal sqB2
  split <;> omega
theorem ctx_in {K : kN} {m f : Nat} (hm : 4 < m → m < 8 → lst K f 0 16 ≠ none) : uses m = true → kT K (ctxN K m f) = true := by
  intro hu
  have h2 : 4 < m ∧ m < 8 := of_decide_eq_true hu
  unfold ctxN
  rw [if_pos h2]
  cases h : lst K f 0 16 with
  | none => exact absurd h (hm h2.1 h2.2)
  | some i => exact (lst_lt K f 16 0 i h).2.2.1
theorem sq_read {K : kN} {xs bs : List Nat} {s : Nat} (h : AT bs s (sqHd K xs)) : uFt K bs s = (0, 0) ∧ uA7 bs (bs.getD s 0) (bs.getD (s + 1) 0) s = s + (sqHd K xs).length ∧ uPo (bs.getD s 0) = hasPB xs := by
  have hlen : (sqHd K xs).length = (sqHd K xs).length := rfl
  unfold sqHd at h
  rw [show s + (sqHd K xs).length = s + (sqHd K xs).length from rfl]
  conv at hlen => rhs; unfold sqHd
  dsimp only at h hlen
  generalize (sqHd K xs).length = LL at hlen ⊢
  have htl : pkL xs < 2 ^ 20 := Nat.mod_lt _ (by decide)
  have htf := sqTF_lt (pkT xs) (pkL xs)
  have hhl := sqHL_lt (xs.getD 7 0)
  have hs1 := mSrc_le K (nb xs 8 8) (nb xs 16 8)
  have hs2 : 4 < mSrc K (nb xs 8 8) (nb xs 16 8) → mSrc K (nb xs 8 8) (nb xs 16 8) < 8 → lst K (nb xs 8 8) 0 16 ≠ none := fun q _ => mSrc_ctx q
  have hg1 := mGoal_le K (nb xs 24 8) (nb xs 32 8)
  have hg2 : 4 < mGoal K (nb xs 24 8) (nb xs 32 8) → mGoal K (nb xs 24 8) (nb xs 32 8) < 8 → lst K (nb xs 24 8) 0 16 ≠ none := fun q r => mGoal_ctx q r
  generalize mSrc K (nb xs 8 8) (nb xs 16 8) = src at *
  generalize mGoal K (nb xs 24 8) (nb xs 32 8) = goal at *
  have k1 := ctx_in hs2
  have k2 := ctx_in hg2
  have c1 := ctxN_lt K src (nb xs 8 8)
  have c2 := ctxN_lt K goal (nb xs 24 8)
  generalize ctxN K src (nb xs 8 8) = x1 at *
  generalize ctxN K goal (nb xs 24 8) = x2 at *
  have hwr := fun a (q : AT bs a (sqTr (sqTF (pkT xs) (pkL xs)) (pkT xs) (pkL xs))) => sqTr_wr htl q
  have hTl := sqTr_l (t := pkT xs) (l := pkL xs) htf
  generalize sqTr (sqTF (pkT xs) (pkL xs)) (pkT xs) (pkL xs) = TR at *
  generalize sqTF (pkT xs) (pkL xs) = tf at *
  generalize sqHL (xs.getD 7 0) = hl at *
  generalize hasPB xs = p at *
  have hAl := sqAd_l (f := nb xs 8 8) (l := nb xs 16 8) (show src < 12 by omega)
  have hGl := sqAd_l (f := nb xs 24 8) (l := nb xs 32 8) (show goal < 12 by omega)
  generalize sqAd src (nb xs 8 8) (nb xs 16 8) = SA at *
  generalize sqAd goal (nb xs 24 8) (nb xs 32 8) = GA at *
  obtain ⟨pf, ys, hpo, hp3, hyl⟩ := sqPo_u (nb xs 40 2) (nb xs 42 2) (nb xs 46 2)
  rw [hpo] at h hlen
  obtain ⟨b1a, b1b, b1c, b1d⟩ := sqB1_u tf htf hl hhl p
  obtain ⟨b2a, b2b, b2c⟩ := sqB2_u (c := 16 * x1 + x2) (show src < 8 by omega) (show goal < 16 by omega)
  obtain ⟨e0, hh1⟩ := AT_1 h
  obtain ⟨e1, hh2⟩ := AT_1 hh1
  clear h hh1
  rw [e0, e1]
  generalize sqB1 tf hl p = B0 at *
  generalize sqB2 (16 * x1 + x2) src goal = B1 at *
  have hC : (if 16 * x1 + x2 = 0 then [] else [16 * x1 + x2] : List Nat).length = (if 16 * x1 + x2 = 0 then 0 else 1) := by split <;> rfl
  have hK : (if p = true then [] else [xs.getD 6 0] : List Nat).length = (if p = true then 0 else 1) := by split <;> rfl
  have hH : (if hl = 0 then [xs.getD 7 0] else [] : List Nat).length = (if hl = 0 then 1 else 0) := by split <;> rfl
  simp only [List.length_append, List.length_cons, List.length_nil, hC, hK, hH, hTl, hAl, hGl] at hlen
  obtain ⟨-, hh3⟩ := AT_ap hh2
  rw [List.length_nil, Nat.add_zero] at hh3
  obtain ⟨q1, g1⟩ := AT_ap hh3
  obtain ⟨q2, g2⟩ := AT_ap g1
  obtain ⟨-, g3⟩ := AT_ap g2
  obtain ⟨-, g4⟩ := AT_ap g3
  obtain ⟨-, g5⟩ := AT_ap g4
  obtain ⟨-, h⟩ := AT_ap g5
  clear hh2 hh3 g1 g2 g3 g4 g5
  rw [hC] at h q2
  rw [hK, hH, hTl, hAl, hGl] at h
  have w0 := hwr _ q2
  have hA1 : uA1 B1 s = s + 1 + 1 + (if 16 * x1 + x2 = 0 then 0 else 1) := by
    unfold uA1
    rw [b2c]
    by_cases hc : 16 * x1 + x2 = 0
    · rw [if_pos hc, if_neg (by decide)]
    · rw [if_neg hc, if_pos rfl]
  have hcx : uCx bs B1 s = 16 * x1 + x2 := by
    unfold uCx
    rw [b2c]
    by_cases hc : 16 * x1 + x2 = 0
    · rw [if_pos hc, if_neg (by decide), hc]
    · rw [if_neg hc] at q1
      rw [if_neg hc, if_pos rfl]
      exact (AT_1 q1).1
  have hA2 : uA2 B0 B1 s = uA1 B1 s + tfN tf := by unfold uA2; rw [b1b]
  have hA4 : uA4 B0 B1 s = uA1 B1 s + tfN tf + (if p = true then 0 else 1) + (if hl = 0 then 1 else 0) := by unfold uA4; rw [hA2, b1c, b1d]
  have hA6 : uA6 B0 B1 s = uA1 B1 s + tfN tf + (if p = true then 0 else 1) + (if hl = 0 then 1 else 0) + tabN src + tabN goal := by unfold uA6 uA5; rw [hA4, b2a, b2b]
  have hlk : uLack K B1 (uCx bs B1 s) = false := by
    unfold uLack
    rw [hcx, b2a, b2b, show (16 * x1 + x2) / 16 = x1 by omega, show (16 * x1 + x2) % 16 = x2 by omega]
    cases hu1 : uses src <;> cases hu2 : uses goal
    · rfl
    · simp [k2 hu2]
    · simp [k1 hu1]
    · simp [k1 hu1, k2 hu2]
  rw [← hA1] at h w0
  rw [show uA1 B1 s + tfN tf + (if p = true then 0 else 1) + (if hl = 0 then 1 else 0) + tabN src + tabN goal = uA6 B0 B1 s from hA6.symm] at h
  have hend := h.1
  cases hp : p with
  | false =>
    subst hp
    have hA7 : uA7 bs B0 B1 s = uA6 B0 B1 s := by unfold uA7; rw [b1c]; simp
    simp only [Bool.false_eq_true, if_false, List.length_nil] at hend hlen hA6
    refine ⟨?_, ?_, b1c⟩
    · unfold uFt
      dsimp only
      rw [e0, e1, b2b, hlk, b1b, w0, b1c, hA2]
      rw [if_neg (by omega), if_neg (by omega), if_neg (by omega), if_neg (by omega), if_neg (by omega), if_neg (by decide), if_neg (by omega), if_neg (by decide), if_neg (by omega), if_neg (by decide)]
    · rw [hA7, hA6, hA1, hlen]; omega
  | true =>
    subst hp
    simp only [if_true] at h hend hlen hA6
    obtain ⟨e6, h6⟩ := AT_1 h
    have hfm : uFm bs B0 B1 s = 240 + pf := by unfold uFm; exact e6
    have hA7 : uA7 bs B0 B1 s = uA6 B0 B1 s + 1 + pfN pf + 2 := by unfold uA7; rw [b1c, hfm, Nat.add_sub_cancel_left]; simp
    simp only [List.length_cons, hyl] at hend hlen
    refine ⟨?_, ?_, b1c⟩
    · unfold uFt
      dsimp only
      rw [e0, e1, b2b, hlk, b1b, w0, b1c, hA2, hfm, hA7]
      rw [if_neg (by omega), if_neg (by omega), if_neg (by omega), if_neg (by omega), if_neg (by omega), if_neg (by decide), if_neg (by omega), if_neg (by decide), if_neg (by omega), if_pos rfl, if_neg (by omega), if_neg (by omega), if_neg (by omega)]
    · rw [hA7, hA6, hA1, hlen]; omega
theorem uHd_l (K : kN) (bs : List Nat) (s n : Nat) : (uHd K bs s n).length = if uPo (bs.getD s 0) = true then 48 else 40 := by
  unfold uHd
  simp only [List.length_append, be_len, uAd_len, List.length_cons, List.length_nil]
  split
  · simp only [List.length_append, be_len]
  · simp
/-- a squeezed head with r bytes behind it unfolds to a packet of as many bytes -/
theorem sq_unf {K : kN} {xs bs : List Nat} {s r : Nat} {o : Option Nat} (h : AT bs s (sqHd K xs)) (hr : bs.length = s + (sqHd K xs).length + r) (ho : r + 8 ≤ 560 ∧ ∀ n, o = some n → n ≤ 560) : (uF K bs s o).1 = 0 ∧ (uPk K bs s o).length = pkH xs + r := by
  obtain ⟨h1, h2, h3⟩ := sq_read h
  have hpk : pkH xs = if uPo (bs.getD s 0) = true then 48 else 40 := by unfold pkH; rw [h3]
  have hbe : uBe bs s o ≤ 560 := by
    cases o with
    | none =>
      show bs.length - uA7 bs (bs.getD s 0) (bs.getD (s + 1) 0) s + (if uPo (bs.getD s 0) then 8 else 0) ≤ 560
      rw [h2, hr]
      split <;> omega
    | some n => exact ho.2 n rfl
  refine ⟨?_, ?_⟩
  · unfold uF
    rw [h1, if_neg (by simp), if_neg (by omega)]
  · unfold uPk
    rw [List.length_append, cutD_len, uHd_l, h2, hr, hpk]
    omega
