/-! the model unfolds -/
def MF (S : tw_S) (s g : Nat) : tw_S := tw_uI (tw_uI (tw_uI (tw_uI (tw_uI S 114 11 (nI (s / 4))) 114 12 (nI (s % 4))) 114 14 (nI (g / 8))) 114 15 (nI (g / 4 % 2))) 114 16 (nI (g % 4))
theorem and4m : ∀ x, x < 256 → (x &&& 4 = 0 ↔ x / 4 % 2 = 0) := by decide +kernel
theorem uLack_f {K : kN} {b1 cx : Nat} (h : ¬ (4 < uSrc b1 ∧ uSrc b1 < 8) ∨ kT K (cx / 16) = true) (g : ¬ (4 < uGoal b1 ∧ uGoal b1 < 8) ∨ kT K (cx % 16) = true) : uLack K b1 cx = false := by
  have e1 : (uses (uSrc b1) && !kT K (cx / 16)) = false := by
    rcases h with h | h
    · rw [uses, decide_eq_false h]; rfl
    · rw [h]; simp
  have e2 : (uses (uGoal b1) && !kT K (cx % 16)) = false := by
    rcases g with h | h
    · rw [uses, decide_eq_false h]; rfl
    · rw [h]; simp
  rw [uLack, e1, e2]; rfl
theorem uLack_t {K : kN} {b1 cx : Nat} (h : ((4 < uSrc b1 ∧ uSrc b1 < 8) ∧ kT K (cx / 16) = false) ∨ ((4 < uGoal b1 ∧ uGoal b1 < 8) ∧ kT K (cx % 16) = false)) : uLack K b1 cx = true := by
  rcases h with ⟨h, k⟩ | ⟨h, k⟩
  · rw [uLack, uses, decide_eq_true h, k]; rfl
  · rw [uLack, show uses (uGoal b1) = true from decide_eq_true h, k]; simp
theorem uLack_k {K : kN} {b1 cx : Nat} (h : uLack K b1 cx = false) : (4 < uSrc b1 → uSrc b1 < 8 → kT K (cx / 16) = true) ∧ (4 < uGoal b1 → uGoal b1 < 8 → kT K (cx % 16) = true) := by
  refine ⟨fun h1 h2 => ?_, fun h1 h2 => ?_⟩
  · cases hk : kT K (cx / 16) with
    | true => rfl
    | false => rw [uLack_t (Or.inl ⟨⟨h1, h2⟩, hk⟩)] at h; exact absurd h (by decide)
  · cases hk : kT K (cx % 16) with
    | true => rfl
    | false => rw [uLack_t (Or.inr ⟨⟨h1, h2⟩, hk⟩)] at h; exact absurd h (by decide)
theorem uBe_eN (bs : List Nat) (s : Nat) (o : Option Nat) : uBe bs s o = eN o (uPo (bs.getD s 0)) (bs.length - uA7 bs (bs.getD s 0) (bs.getD (s + 1) 0) s) := by
  cases o <;> rfl
theorem BK_ap {f : Nat → Int32} {a c : Nat} {X Y : List Nat} (h : BK f a X) (e : a + X.length = c) (g : BK f c Y) : BK f a (X ++ Y) := BK_app h (e ▸ g)
theorem LA_BK {f : Nat → Int32} {X : List Nat} (h : BK f 0 X) : LA f X := fun i hi => by have := h i hi; rwa [Nat.zero_add] at this
section MU3
variable {S : tw_S} {K : kN} {tp ot : List Nat} {fr : List (List Nat)} {T : Nat → Int32} {hl : List mE} {ck wh dr la an : Nat}
theorem MI_PU {f : Nat → Int32} {L v : Nat} (h : MI S K tp ot fr T hl ck wh dr la an) : MI (PU S f L v) K tp ot fr T hl ck wh dr la an := h
theorem MI_MF {s g : Nat} (h : MI S K tp ot fr T hl ck wh dr la an) : MI (MF S s g) K tp ot fr T hl ck wh dr la an := h
theorem MI_EF {t c s g a : Nat} {x : Int32} (h : MI S K tp ot fr T hl ck wh dr la an) : MI (EF S t c s g x a) K tp ot fr T hl ck wh dr la an := h
theorem MI_21 {x : Int32} (h : MI S K tp ot fr T hl ck wh dr la an) : MI (tw_uI S 114 21 x) K tp ot fr T hl ck wh dr la an := h
theorem MI_22 {x : Int32} (h : MI S K tp ot fr T hl ck wh dr la an) : MI (tw_uI S 114 22 x) K tp ot fr T hl ck wh dr la an := h
theorem MI_24 {x : Int32} (h : MI S K tp ot fr T hl ck wh dr la an) : MI (tw_uI S 114 24 x) K tp ot fr T hl ck wh dr la an := h
/-- how unfolding ends -/
def UPost (K : kN) (tp ot : List Nat) (fr : List (List Nat)) (T : Nat → Int32) (hl : List mE) (ck wh dr la an : Nat) (bs : List Nat) (o : Option Nat) (x : Int32) (S' : tw_S) : Prop := (((uF K bs 0 o).1 = 0 ∧ x = nI 1 ∧ LA (tw_A S' 122) (uPk K bs 0 o) ∧ tw_I S' 114 24 = nI (uPk K bs 0 o).length ∧ ∀ j, 2 ≤ j → j < 8 → tw_A S' 123 j = tlW bs j) ∨ ((uF K bs 0 o).1 ≠ 0 ∧ x = nI 0)) ∧ tw_I S' 114 21 = nI (uF K bs 0 o).1 ∧ tw_I S' 114 22 = nI (uF K bs 0 o).2 ∧ MI S' K tp ot fr T hl ck wh dr la an
theorem uBad1 {bs : List Nat} {o : Option Nat} {f : Nat → Int32} {v : Nat} (h : MI S K tp ot fr T hl ck wh dr la an) (e : uFt K bs 0 = (1, bs.length)) (hv : bs.length < v) : UPost K tp ot fr T hl ck wh dr la an bs o (nI 0) (PU S f bs.length v) := by
  have e2 : uF K bs 0 o = (1, bs.length) := (uF_t (by rw [e]; exact Nat.one_ne_zero)).trans e
  refine ⟨Or.inr ⟨by rw [e2]; exact Nat.one_ne_zero, rfl⟩, ?_, ?_, MI_PU h⟩
  · rw [e2]
    show nI (pF bs.length v) = nI 1
    rw [pF, if_neg (by omega)]
  · rw [e2]
    show nI (pP bs.length v) = nI bs.length
    rw [pP, if_neg (by omega)]
theorem uBad2 {bs : List Nat} {o : Option Nat} {w u : Nat} (h : MI S K tp ot fr T hl ck wh dr la an) (e : uF K bs 0 o = (w, u)) (hw : w ≠ 0) : UPost K tp ot fr T hl ck wh dr la an bs o (nI 0) (tw_uI (tw_uI S 114 21 (nI w)) 114 22 (nI u)) := by
  refine ⟨Or.inr ⟨by rw [e]; exact hw, rfl⟩, ?_, ?_, MI_22 (MI_21 h)⟩
  · rw [e]; rfl
  · rw [e]; rfl
theorem uBad3 {bs : List Nat} {o : Option Nat} {w u : Nat} (h : MI S K tp ot fr T hl ck wh dr la an) (e : uFt K bs 0 = (w, u)) (hw : w ≠ 0) : UPost K tp ot fr T hl ck wh dr la an bs o (nI 0) (tw_uI (tw_uI S 114 21 (nI w)) 114 22 (nI u)) := uBad2 h ((uF_t (by rw [e]; exact hw)).trans e) hw
end MU3
theorem uPk_BK {K : kN} {bs : List Nat} {o : Option Nat} {f : Nat → Int32} (m0 : BK f 0 (be (ff (uT bs (uTF (bs.getD 0 0)) (uA1 (bs.getD (0 + 1) 0) 0)) (uL bs (uTF (bs.getD 0 0)) (uA1 (bs.getD (0 + 1) 0) 0))) 4)) (m4 : BK f 4 (be (uBe bs 0 o) 2)) (m6 : BK f 6 [(if uPo (bs.getD 0 0) then 17 else bs.getD (uA2 (bs.getD 0 0) (bs.getD (0 + 1) 0) 0) 0), (if uHL (bs.getD 0 0) = 0 then bs.getD ((uA2 (bs.getD 0 0) (bs.getD (0 + 1) 0) 0) + (if uPo (bs.getD 0 0) then 0 else 1)) 0 else if uHL (bs.getD 0 0) = 1 then 1 else if uHL (bs.getD 0 0) = 2 then 64 else 255)]) (m8 : BK f 8 (uAd K (uSrc (bs.getD (0 + 1) 0)) 0 ((uCx bs (bs.getD (0 + 1) 0) 0) / 16) bs (uA4 (bs.getD 0 0) (bs.getD (0 + 1) 0) 0))) (m24 : BK f 24 (uAd K (uGoal (bs.getD (0 + 1) 0)) 1 ((uCx bs (bs.getD (0 + 1) 0) 0) % 16) bs (uA5 (bs.getD 0 0) (bs.getD (0 + 1) 0) 0))) (mp : uPo (bs.getD 0 0) = true → BK f 40 (be (uPn ((uFm bs (bs.getD 0 0) (bs.getD (0 + 1) 0) 0) - 240) (nb bs ((uA6 (bs.getD 0 0) (bs.getD (0 + 1) 0) 0) + 1) (pfN ((uFm bs (bs.getD 0 0) (bs.getD (0 + 1) 0) 0) - 240)))) 4) ∧ BK f 44 (be (uBe bs 0 o) 2) ∧ BK f 46 (be (nb bs ((uA6 (bs.getD 0 0) (bs.getD (0 + 1) 0) 0) + 1 + pfN ((uFm bs (bs.getD 0 0) (bs.getD (0 + 1) 0) 0) - 240)) 2) 2)) (mr : BK f (eH (uPo (bs.getD 0 0))) (cutD bs (uA7 bs (bs.getD 0 0) (bs.getD (0 + 1) 0) 0) (bs.length - (uA7 bs (bs.getD 0 0) (bs.getD (0 + 1) 0) 0)))) : LA f (uPk K bs 0 o) ∧ (uPk K bs 0 o).length = eH (uPo (bs.getD 0 0)) + (bs.length - (uA7 bs (bs.getD 0 0) (bs.getD (0 + 1) 0) 0)) := by
  have hl : (uHd K bs 0 (uBe bs 0 o)).length = eH (uPo (bs.getD 0 0)) := by
    unfold uHd eH
    by_cases hp : uPo (bs.getD 0 0) = true
    · simp only [hp, reduceIte, List.length_append, be_len, uAd_len, List.length_cons, List.length_nil]
    · have hp := Bool.eq_false_iff.mpr hp
      simp only [hp, Bool.false_eq_true, reduceIte, List.length_append, be_len, uAd_len, List.length_cons, List.length_nil]
  refine ⟨LA_BK ?_, by rw [uPk, List.length_append, cutD_len, hl]⟩
  refine BK_ap ?_ (by rw [Nat.zero_add]; exact hl) mr
  have m7 : BK f 7 [(if uHL (bs.getD 0 0) = 0 then bs.getD ((uA2 (bs.getD 0 0) (bs.getD (0 + 1) 0) 0) + (if uPo (bs.getD 0 0) then 0 else 1)) 0 else if uHL (bs.getD 0 0) = 1 then 1 else if uHL (bs.getD 0 0) = 2 then 64 else 255)] := fun i hi => by
    have hi : i = 0 := Nat.lt_one_iff.mp hi
    subst hi
    exact m6 1 (show 1 < 2 from by decide)
  have m6' : BK f 6 [(if uPo (bs.getD 0 0) then 17 else bs.getD (uA2 (bs.getD 0 0) (bs.getD (0 + 1) 0) 0) 0)] := fun i hi => by
    have hi : i = 0 := Nat.lt_one_iff.mp hi
    subst hi
    exact m6 0 (show 0 < 2 from by decide)
  refine BK_ap m0 (c := 4) (by rw [be_len]) (BK_ap m4 (c := 6) (by rw [be_len]) (BK_ap m6' (c := 7) rfl (BK_ap m7 (c := 8) rfl (BK_ap m8 (c := 24) (by rw [uAd_len]) (BK_ap m24 (c := 40) (by rw [uAd_len]) ?_)))))
  by_cases hp : uPo (bs.getD 0 0) = true
  · rw [if_pos hp]
    exact BK_ap (mp hp).1 (c := 44) (by rw [be_len]) (BK_ap (mp hp).2.1 (c := 46) (by rw [be_len]) (mp hp).2.2)
  · rw [if_neg hp]
    exact BK_nil _ _
theorem c_X11_unfolds {G : tw_G} (hM : tw_mG G) {S : tw_S} {K : kN} {tp ot : List Nat} {fr : List (List Nat)} {T : Nat → Int32} {hl : List mE} {ck wh dr la an : Nat} (hI : MI S K tp ot fr T hl ck wh dr la an) {bs : List Nat} (hB : LA (tw_A S 121) bs) (h19 : tw_I S 114 19 = nI bs.length) (hbl : bs.length ≤ 640) (hbb : ∀ x ∈ bs, x < 256) {z : Int32} {o : Option Nat} (hz : (z = -1 ∧ o = none) ∨ ∃ u, u ≤ 560 ∧ z = nI (u + 40) ∧ o = some u) : tw_M G yX11_unfolds cX11_unfolds 13 (some .boolean) 4 89 [.ref (tw_ad G 114), .int z] S ri_I (fun x S' => UPost K tp ot fr T hl ck wh dr la an bs o x S') := by
  refine tw_M.of (L := [(0, .ref (tw_ad G 114)), (1, .int z)]) (by decide) (Nat.le_of_ble_eq_true rfl) rfl (fun X C N Q => ?_)
  have C : tw_C G X cX11_unfolds RX11 := C
  have hb0 := gD_lt hbb 0
  have hb1_ := gD_lt hbb (0 + 1)
  have hus : uSrc (bs.getD (0 + 1) 0) = (bs.getD (0 + 1) 0) / 16 % 8 := rfl
  have hug : uGoal (bs.getD (0 + 1) 0) = (bs.getD (0 + 1) 0) % 16 := rfl
  have hcx : uCx bs (bs.getD (0 + 1) 0) 0 < 256 := by unfold uCx; split <;> first | exact gD_lt hbb _ | decide
  have htf : uTF (bs.getD 0 0) = (bs.getD 0 0) / 8 % 4 := rfl
  have t36 : ∀ (g : Nat → Int32) (_ : ∀ q, q < 48 → g q = nI 0), TW G X (PU S g bs.length 0) [(1, .int z), (0, .ref (tw_ad G 114))] 36 [] := by
    intro g hz0
    have t467 : ∀ (g1 : Nat → Int32) (x : Int32) (_ : BK g1 0 (be (ff (uT bs (uTF (bs.getD 0 0)) (uA1 (bs.getD (0 + 1) 0) 0)) (uL bs (uTF (bs.getD 0 0)) (uA1 (bs.getD (0 + 1) 0) 0))) 4)) (_ : BK g1 6 [(if uPo (bs.getD 0 0) then 17 else bs.getD (uA2 (bs.getD 0 0) (bs.getD (0 + 1) 0) 0) 0), (if uHL (bs.getD 0 0) = 0 then bs.getD ((uA2 (bs.getD 0 0) (bs.getD (0 + 1) 0) 0) + (if uPo (bs.getD 0 0) then 0 else 1)) 0 else if uHL (bs.getD 0 0) = 1 then 1 else if uHL (bs.getD 0 0) = 2 then 64 else 255)]) (_ : BK g1 8 (uAd K (uSrc (bs.getD (0 + 1) 0)) 0 ((uCx bs (bs.getD (0 + 1) 0) 0) / 16) bs (uA4 (bs.getD 0 0) (bs.getD (0 + 1) 0) 0))) (_ : BK g1 24 (uAd K (uGoal (bs.getD (0 + 1) 0)) 1 ((uCx bs (bs.getD (0 + 1) 0) 0) % 16) bs (uA5 (bs.getD 0 0) (bs.getD (0 + 1) 0) 0))) (_ : uPo (bs.getD 0 0) = true → BK g1 40 (be (uPn ((uFm bs (bs.getD 0 0) (bs.getD (0 + 1) 0) 0) - 240) (nb bs ((uA6 (bs.getD 0 0) (bs.getD (0 + 1) 0) 0) + 1) (pfN ((uFm bs (bs.getD 0 0) (bs.getD (0 + 1) 0) 0) - 240)))) 4) ∧ BK g1 46 (be (nb bs ((uA6 (bs.getD 0 0) (bs.getD (0 + 1) 0) 0) + 1 + pfN ((uFm bs (bs.getD 0 0) (bs.getD (0 + 1) 0) 0) - 240)) 2) 2)) (_ : x = if uPo (bs.getD 0 0) then nI ((uFm bs (bs.getD 0 0) (bs.getD (0 + 1) 0) 0) - 240) else -2) (_ : uFt K bs 0 = (0, 0)) (_ : (uA7 bs (bs.getD 0 0) (bs.getD (0 + 1) 0) 0) ≤ bs.length), TW G X (PU (MF S (uSrc (bs.getD (0 + 1) 0)) (uGoal (bs.getD (0 + 1) 0))) g1 bs.length (uA7 bs (bs.getD 0 0) (bs.getD (0 + 1) 0) 0)) [(10, .int x), (1, .int z), (4, .int (nI (uTF (bs.getD 0 0)))), (5, .int (bI (uPo (bs.getD 0 0)))), (6, .int (nI ((bs.getD (0 + 1) 0) / 128))), (0, .ref (tw_ad G 114))] 467 [] := by
      intro g1 x k0 k6 k8 k24 kp kx ke ka
      have uGood : ∀ {g5 : Nat → Int32} (hn : ¬ 560 < eN o (uPo (bs.getD 0 0)) (bs.length - (uA7 bs (bs.getD 0 0) (bs.getD (0 + 1) 0) 0))) (j4 : BK g5 4 (be (eN o (uPo (bs.getD 0 0)) (bs.length - (uA7 bs (bs.getD 0 0) (bs.getD (0 + 1) 0) 0))) 2)) (j44 : uPo (bs.getD 0 0) = true → BK g5 44 (be (eN o (uPo (bs.getD 0 0)) (bs.length - (uA7 bs (bs.getD 0 0) (bs.getD (0 + 1) 0) 0))) 2)) (jr : BK g5 (eH (uPo (bs.getD 0 0))) (cutD bs (uA7 bs (bs.getD 0 0) (bs.getD (0 + 1) 0) 0) (bs.length - (uA7 bs (bs.getD 0 0) (bs.getD (0 + 1) 0) 0)))) (jf : ∀ q, q < eH (uPo (bs.getD 0 0)) → q ≠ 4 → q ≠ 5 → (uPo (bs.getD 0 0) = true → q ≠ 44 ∧ q ≠ 45) → g5 q = g1 q), UPost K tp ot fr T hl ck wh dr la an bs o (nI 1) (PU (tw_uI (EF (MF S (uSrc (bs.getD (0 + 1) 0)) (uGoal (bs.getD (0 + 1) 0))) (uTF (bs.getD 0 0)) ((bs.getD (0 + 1) 0) / 128) (uSrc (bs.getD (0 + 1) 0)) (uGoal (bs.getD (0 + 1) 0)) x (uA7 bs (bs.getD 0 0) (bs.getD (0 + 1) 0) 0)) 114 24 (nI (eH (uPo (bs.getD 0 0)) + (bs.length - (uA7 bs (bs.getD 0 0) (bs.getD (0 + 1) 0) 0))))) g5 bs.length (uA7 bs (bs.getD 0 0) (bs.getD (0 + 1) 0) 0)) := by
        intro g5 hn j4 j44 jr jf
        have hb := uBe_eN bs 0 o
        have hH40 : 40 ≤ eH (uPo (bs.getD 0 0)) := by unfold eH; split <;> decide
        have e : uF K bs 0 o = (0, 0) := uF_0 ke (by rw [hb]; exact Nat.le_of_not_lt hn)
        have hH48 : uPo (bs.getD 0 0) = true → eH (uPo (bs.getD 0 0)) = 48 := fun hp => by rw [eH, if_pos hp]
        rw [← hb] at j4 j44
        obtain ⟨k1, k2⟩ := uPk_BK (K := K) (o := o) (f := g5) (BK_cg k0 (fun q h3 h4 => jf q (by rw [be_len] at h4; omega) (by rw [be_len] at h4; omega) (by rw [be_len] at h4; omega) (fun _ => by rw [be_len] at h4; omega))) j4 (BK_cg k6 (fun q h3 h4 => jf q (by simp only [List.length_cons, List.length_nil] at h4; omega) (by omega) (by omega) (fun _ => by simp only [List.length_cons, List.length_nil] at h4; omega))) (BK_cg k8 (fun q h3 h4 => jf q (by rw [uAd_len] at h4; omega) (by omega) (by omega) (fun _ => by rw [uAd_len] at h4; omega))) (BK_cg k24 (fun q h3 h4 => jf q (by rw [uAd_len] at h4; omega) (by omega) (by omega) (fun _ => by rw [uAd_len] at h4; omega))) (fun hp => ⟨BK_cg (kp hp).1 (fun q h3 h4 => jf q (by rw [be_len] at h4; rw [hH48 hp]; omega) (by omega) (by omega) (fun _ => by rw [be_len] at h4; omega)), j44 hp, BK_cg (kp hp).2 (fun q h3 h4 => jf q (by rw [be_len] at h4; rw [hH48 hp]; omega) (by omega) (by omega) (fun _ => by omega))⟩) jr
        refine ⟨Or.inl ⟨by rw [e], rfl, k1, by rw [k2]; rfl, fun j hj1 hj2 => ?_⟩, ?_, ?_, MI_PU (MI_24 (MI_EF (MI_MF hI)))⟩
        · rcases (show j = 2 ∨ j = 3 ∨ j = 4 ∨ j = 5 ∨ j = 6 ∨ j = 7 by omega) with rfl | rfl | rfl | rfl | rfl | rfl
          · rfl
          · rfl
          · rfl
          · rfl
          · show x = _
            rw [kx]; rfl
          · rfl
        · rw [e]
          show nI (pF bs.length (uA7 bs (bs.getD 0 0) (bs.getD (0 + 1) 0) 0)) = nI 0
          rw [pF, if_pos ka]
        · rw [e]
          show nI (pP bs.length (uA7 bs (bs.getD 0 0) (bs.getD (0 + 1) 0) 0)) = nI 0
          rw [pP, if_pos ka]
      refine tw_aload_n C dX11_unfolds_467 5 rfl ?_
      refine tw_iload_n C dX11_unfolds_468 1 rfl ?_
      refine tw_iload C dX11_unfolds_469 3 rfl ?_
      refine tw_iload C dX11_unfolds_471 0 rfl ?_
      refine tw_iload C dX11_unfolds_473 2 rfl ?_
      refine tw_iload C dX11_unfolds_475 4 rfl ?_
      refine tw_callV (As := [.int z, .int (bI (uPo (bs.getD 0 0))), .int x, .int (nI (uTF (bs.getD 0 0))), .int (nI ((bs.getD (0 + 1) 0) / 128))]) (rest := []) C N (c_X11_ends hM (B := (MF S (uSrc (bs.getD (0 + 1) 0)) (uGoal (bs.getD (0 + 1) 0)))) (f := g1) (bs := bs) hB h19 hbl hbb (a := (uA7 bs (bs.getD 0 0) (bs.getD (0 + 1) 0) 0)) (s := uSrc (bs.getD (0 + 1) 0)) (g := uGoal (bs.getD (0 + 1) 0)) (tf := uTF (bs.getD 0 0)) (c := (bs.getD (0 + 1) 0) / 128) (z := z) (x := x) (po := uPo (bs.getD 0 0)) (o := o) ka (by omega) (by omega) rfl rfl rfl rfl rfl hz) mm_X11_ends wd_633 rfl (hM 114 (by decide) (by decide)) sh_114 rfl (by decide) rfl (Nat.le_of_ble_eq_true rfl) dX11_unfolds_477 ?_
      rintro _ _ (⟨hn, rfl, rfl⟩ | ⟨hn, rfl, g5, rfl, j4, j44, jr, jf⟩)
      · show TW G X (tw_uI (tw_uI (PU (tw_uI (EF (MF S (uSrc (bs.getD (0 + 1) 0)) (uGoal (bs.getD (0 + 1) 0))) (uTF (bs.getD 0 0)) ((bs.getD (0 + 1) 0) / 128) (uSrc (bs.getD (0 + 1) 0)) (uGoal (bs.getD (0 + 1) 0)) x (uA7 bs (bs.getD 0 0) (bs.getD (0 + 1) 0) 0)) 114 24 (nI (eH (uPo (bs.getD 0 0))))) g1 bs.length (uA7 bs (bs.getD 0 0) (bs.getD (0 + 1) 0) 0)) 114 21 (nI 7)) 114 22 (nI bs.length)) [(10, .int x), (1, .int z), (4, .int (nI (uTF (bs.getD 0 0)))), (5, .int (bI (uPo (bs.getD 0 0)))), (6, .int (nI ((bs.getD (0 + 1) 0) / 128))), (0, .ref (tw_ad G 114))] 480 [.int (nI 0)]
        exact tw_ireturn C Q dX11_unfolds_480 rfl rfl rfl (uBad2 (MI_PU (MI_24 (MI_EF (MI_MF hI)))) (uF_7 ke (by rw [uBe_eN]; exact hn)) (by decide))
      · show TW G X (PU (tw_uI (EF (MF S (uSrc (bs.getD (0 + 1) 0)) (uGoal (bs.getD (0 + 1) 0))) (uTF (bs.getD 0 0)) ((bs.getD (0 + 1) 0) / 128) (uSrc (bs.getD (0 + 1) 0)) (uGoal (bs.getD (0 + 1) 0)) x (uA7 bs (bs.getD 0 0) (bs.getD (0 + 1) 0) 0)) 114 24 (nI (eH (uPo (bs.getD 0 0)) + (bs.length - (uA7 bs (bs.getD 0 0) (bs.getD (0 + 1) 0) 0))))) g5 bs.length (uA7 bs (bs.getD 0 0) (bs.getD (0 + 1) 0) 0)) [(10, .int x), (1, .int z), (4, .int (nI (uTF (bs.getD 0 0)))), (5, .int (bI (uPo (bs.getD 0 0)))), (6, .int (nI ((bs.getD (0 + 1) 0) / 128))), (0, .ref (tw_ad G 114))] 480 [.int (nI 1)]
        exact tw_ireturn C Q dX11_unfolds_480 rfl rfl rfl (uGood hn j4 j44 jr jf)
    have t318 : ∀ (_ : u2 K bs 0) (_ : (uA1 (bs.getD (0 + 1) 0) 0) + tfN (uTF (bs.getD 0 0)) ≤ bs.length) (_ : uWr bs (uTF (bs.getD 0 0)) (uA1 (bs.getD (0 + 1) 0) 0) = 0), ∀ (g1 : Nat → Int32) (_ : BK g1 0 (be (ff (uT bs (uTF (bs.getD 0 0)) (uA1 (bs.getD (0 + 1) 0) 0)) (uL bs (uTF (bs.getD 0 0)) (uA1 (bs.getD (0 + 1) 0) 0))) 4)) (_ : g1 6 = nI (if uPo (bs.getD 0 0) then 17 else bs.getD (uA2 (bs.getD 0 0) (bs.getD (0 + 1) 0) 0) 0)) (_ : ∀ q, 7 ≤ q → q < 48 → g1 q = nI 0), TW G X (PU (MF S (uSrc (bs.getD (0 + 1) 0)) (uGoal (bs.getD (0 + 1) 0))) g1 bs.length ((uA2 (bs.getD 0 0) (bs.getD (0 + 1) 0) 0) + (if uPo (bs.getD 0 0) then 0 else 1))) [(1, .int z), (2, .int (nI ((bs.getD 0 0)))), (4, .int (nI (uTF (bs.getD 0 0)))), (5, .int (bI (uPo (bs.getD 0 0)))), (6, .int (nI ((bs.getD (0 + 1) 0) / 128))), (7, .int (nI ((uCx bs (bs.getD (0 + 1) 0) 0)))), (0, .ref (tw_ad G 114))] 318 [] := by
      intro hu2 hu3 hu4
      have hu1 := hu2.1
      have hg12 := hu1.2.2
      have hkk := uLack_k hu2.2.2
      have t365 : ∀ (g1 : Nat → Int32) (_ : BK g1 0 (be (ff (uT bs (uTF (bs.getD 0 0)) (uA1 (bs.getD (0 + 1) 0) 0)) (uL bs (uTF (bs.getD 0 0)) (uA1 (bs.getD (0 + 1) 0) 0))) 4)) (_ : BK g1 6 [(if uPo (bs.getD 0 0) then 17 else bs.getD (uA2 (bs.getD 0 0) (bs.getD (0 + 1) 0) 0) 0), (if uHL (bs.getD 0 0) = 0 then bs.getD ((uA2 (bs.getD 0 0) (bs.getD (0 + 1) 0) 0) + (if uPo (bs.getD 0 0) then 0 else 1)) 0 else if uHL (bs.getD 0 0) = 1 then 1 else if uHL (bs.getD 0 0) = 2 then 64 else 255)]) (_ : ∀ q, 8 ≤ q → q < 48 → g1 q = nI 0), TW G X (PU (MF S (uSrc (bs.getD (0 + 1) 0)) (uGoal (bs.getD (0 + 1) 0))) g1 bs.length (uA4 (bs.getD 0 0) (bs.getD (0 + 1) 0) 0)) [(1, .int z), (2, .int (nI ((bs.getD 0 0)))), (4, .int (nI (uTF (bs.getD 0 0)))), (5, .int (bI (uPo (bs.getD 0 0)))), (6, .int (nI ((bs.getD (0 + 1) 0) / 128))), (7, .int (nI ((uCx bs (bs.getD (0 + 1) 0) 0)))), (0, .ref (tw_ad G 114))] 365 [] := by
        intro g1 hb1 h6 hz8
        have hfmb := gD_lt hbb (uA6 (bs.getD 0 0) (bs.getD (0 + 1) 0) 0)
        refine tw_aload_n C dX11_unfolds_365 6 rfl ?_
        refine tw_iload C dX11_unfolds_366 5 rfl ?_
        refine tw_iconst C dX11_unfolds_368 (v := nI 4) (by decide) ?_
        refine tw_ishr C dX11_unfolds_369 (v := nI (((uCx bs (bs.getD (0 + 1) 0) 0)) / 16)) (nI_shr (by omega) 4 (by decide)) ?_
        refine tw_callV (As := [.int (nI (((uCx bs (bs.getD (0 + 1) 0) 0)) / 16))]) (rest := []) C N (c_X11_unfoldSource hM (K := K) (B := (MF S (uSrc (bs.getD (0 + 1) 0)) (uGoal (bs.getD (0 + 1) 0)))) (f := g1) (bs := bs) hB h19 hbl (v := (uA4 (bs.getD 0 0) (bs.getD (0 + 1) 0) 0)) hbb hI.1 (m := uSrc (bs.getD (0 + 1) 0)) (c := ((uCx bs (bs.getD (0 + 1) 0) 0)) / 16) (by omega) (by omega) (fun h => ⟨by omega, hkk.1 h (by omega)⟩) rfl rfl (fun q h1 h2 => hz8 q (by omega) (by omega))) mm_X11_unfoldSource wd_609 rfl (hM 114 (by decide) (by decide)) sh_114 rfl (by decide) rfl (Nat.le_of_ble_eq_true rfl) dX11_unfolds_370 ?_
        rintro _ _ ⟨g2, rfl, hb2, hf2⟩
        show TW G X (PU (MF S (uSrc (bs.getD (0 + 1) 0)) (uGoal (bs.getD (0 + 1) 0))) g2 bs.length (uA5 (bs.getD 0 0) (bs.getD (0 + 1) 0) 0)) [(1, .int z), (2, .int (nI ((bs.getD 0 0)))), (4, .int (nI (uTF (bs.getD 0 0)))), (5, .int (bI (uPo (bs.getD 0 0)))), (6, .int (nI ((bs.getD (0 + 1) 0) / 128))), (7, .int (nI ((uCx bs (bs.getD (0 + 1) 0) 0)))), (0, .ref (tw_ad G 114))] 373 []
        refine tw_aload_n C dX11_unfolds_373 6 rfl ?_
        refine tw_iload C dX11_unfolds_374 5 rfl ?_
        refine tw_bipush C dX11_unfolds_376 (v := nI 15) (by decide) ?_
        refine tw_iand C dX11_unfolds_378 (v := nI (((uCx bs (bs.getD (0 + 1) 0) 0)) % 16)) (nI_andm 4 (by decide)) ?_
        refine tw_callV (As := [.int (nI (((uCx bs (bs.getD (0 + 1) 0) 0)) % 16))]) (rest := []) C N (c_X11_unfoldGoal hM (K := K) (B := (MF S (uSrc (bs.getD (0 + 1) 0)) (uGoal (bs.getD (0 + 1) 0)))) (f := g2) (bs := bs) hB h19 hbl (v := (uA5 (bs.getD 0 0) (bs.getD (0 + 1) 0) 0)) hbb hI.1 (m := uGoal (bs.getD (0 + 1) 0)) (c := ((uCx bs (bs.getD (0 + 1) 0) 0)) % 16) (by omega) (fun h => hu1.2.2 (Or.inl h)) (by omega) (fun h1 h2 => ⟨by omega, hkk.2 h1 h2⟩) rfl rfl rfl (fun q h1 h2 => (hf2 q (by omega)).trans (hz8 q (by omega) (by omega)))) mm_X11_unfoldGoal wd_625 rfl (hM 114 (by decide) (by decide)) sh_114 rfl (by decide) rfl (Nat.le_of_ble_eq_true rfl) dX11_unfolds_379 ?_
        rintro _ _ ⟨g3, rfl, hb3, hf3⟩
        show TW G X (PU (MF S (uSrc (bs.getD (0 + 1) 0)) (uGoal (bs.getD (0 + 1) 0))) g3 bs.length (uA6 (bs.getD 0 0) (bs.getD (0 + 1) 0) 0)) [(1, .int z), (2, .int (nI ((bs.getD 0 0)))), (4, .int (nI (uTF (bs.getD 0 0)))), (5, .int (bI (uPo (bs.getD 0 0)))), (6, .int (nI ((bs.getD (0 + 1) 0) / 128))), (7, .int (nI ((uCx bs (bs.getD (0 + 1) 0) 0)))), (0, .ref (tw_ad G 114))] 382 []
        refine tw_aload_n C dX11_unfolds_382 6 rfl ?_
        have hpf6 := pF_io bs.length (uA6 (bs.getD 0 0) (bs.getD (0 + 1) 0) 0)
        refine tw_getI (v := nI (pF bs.length (uA6 (bs.getD 0 0) (bs.getD (0 + 1) 0) 0))) (k := 21) C dX11_unfolds_383 fc_X11 sh_114 (hM 114 (by decide) (by decide)) rfl (by decide) wd_584 rfl ?_
        refine tn_if_le C dX11_unfolds_386 (tgt := 391) (by decide) (by omega) (fun c3 => ?_) (fun c3 => ?_)
        · have hle6 : (uA6 (bs.getD 0 0) (bs.getD (0 + 1) 0) 0) ≤ bs.length := by omega
          refine tw_bipush C dX11_unfolds_391 (v := (-2)) (by decide) ?_
          refine tw_istore (L' := [(10, .int ((-2))), (1, .int z), (2, .int (nI ((bs.getD 0 0)))), (4, .int (nI (uTF (bs.getD 0 0)))), (5, .int (bI (uPo (bs.getD 0 0)))), (6, .int (nI ((bs.getD (0 + 1) 0) / 128))), (7, .int (nI ((uCx bs (bs.getD (0 + 1) 0) 0)))), (0, .ref (tw_ad G 114))]) C N dX11_unfolds_393 (i := 10) (by decide) rfl ?_
          refine tw_iload C dX11_unfolds_395 4 rfl ?_
          refine tb_if_eq C dX11_unfolds_397 (tgt := 467) (by decide) (fun hp7 => ?_) (fun hp7 => ?_)
          · skip
            refine TW.sS (S' := PU (MF S (uSrc (bs.getD (0 + 1) 0)) (uGoal (bs.getD (0 + 1) 0))) g3 bs.length (uA7 bs (bs.getD 0 0) (bs.getD (0 + 1) 0) 0)) (by rw [uA7_n hp7]) ?_
            refine TW.c (L' := [(10, .int ((-2))), (1, .int z), (4, .int (nI (uTF (bs.getD 0 0)))), (5, .int (bI (uPo (bs.getD 0 0)))), (6, .int (nI ((bs.getD (0 + 1) 0) / 128))), (0, .ref (tw_ad G 114))]) (by simp) ?_
            exact t467 g3 _ (BK_cg hb1 (fun q h3 h4 => ((hf3 q (by simp only [be_len, uAd_len, List.length_cons, List.length_nil] at h4; omega)).trans (hf2 q (by simp only [be_len, uAd_len, List.length_cons, List.length_nil] at h4; omega))))) (BK_cg h6 (fun q h3 h4 => ((hf3 q (by simp only [be_len, uAd_len, List.length_cons, List.length_nil] at h4; omega)).trans (hf2 q (by simp only [be_len, uAd_len, List.length_cons, List.length_nil] at h4; omega))))) (BK_cg hb2 (fun q h3 h4 => (hf3 q (by simp only [be_len, uAd_len, List.length_cons, List.length_nil] at h4; omega)))) hb3 (fun h => absurd h (by rw [hp7]; decide)) (by rw [if_neg (by rw [hp7]; decide)]) (uFt_p0 ⟨hu2, hu3, hu4⟩ hle6 hp7) (by rw [uA7_n hp7]; exact hle6)
          · skip
            refine tw_aload_n C dX11_unfolds_400 7 rfl ?_
            refine tw_getI (v := nI ((uA6 (bs.getD 0 0) (bs.getD (0 + 1) 0) 0))) (k := 20) C dX11_unfolds_401 fc_X11 sh_114 (hM 114 (by decide) (by decide)) rfl (by decide) wd_592 (by show nI (pA bs.length (uA6 (bs.getD 0 0) (bs.getD (0 + 1) 0) 0)) = _; rw [pA, Nat.min_eq_left hle6]) ?_
            refine tw_istore (L' := [(11, .int (nI ((uA6 (bs.getD 0 0) (bs.getD (0 + 1) 0) 0)))), (10, .int ((-2))), (1, .int z), (2, .int (nI ((bs.getD 0 0)))), (4, .int (nI (uTF (bs.getD 0 0)))), (5, .int (bI (uPo (bs.getD 0 0)))), (6, .int (nI ((bs.getD (0 + 1) 0) / 128))), (7, .int (nI ((uCx bs (bs.getD (0 + 1) 0) 0)))), (0, .ref (tw_ad G 114))]) C N dX11_unfolds_404 (i := 11) (by decide) rfl ?_
            refine tw_aload_n C dX11_unfolds_406 8 rfl ?_
            refine tw_callV (As := []) (rest := []) C N (c_X11_next hM (B := (MF S (uSrc (bs.getD (0 + 1) 0)) (uGoal (bs.getD (0 + 1) 0)))) (f := g3) (bs := bs) (v := (uA6 (bs.getD 0 0) (bs.getD (0 + 1) 0) 0)) hB h19 hbl) mm_X11_next wd_593 rfl (hM 114 (by decide) (by decide)) sh_114 rfl (by decide) rfl (Nat.le_of_ble_eq_true rfl) dX11_unfolds_407 ?_
            rintro _ _ ⟨rfl, rfl⟩
            show TW G X (PU (MF S (uSrc (bs.getD (0 + 1) 0)) (uGoal (bs.getD (0 + 1) 0))) g3 bs.length ((uA6 (bs.getD 0 0) (bs.getD (0 + 1) 0) 0) + 1)) [(11, .int (nI ((uA6 (bs.getD 0 0) (bs.getD (0 + 1) 0) 0)))), (10, .int ((-2))), (1, .int z), (2, .int (nI ((bs.getD 0 0)))), (4, .int (nI (uTF (bs.getD 0 0)))), (5, .int (bI (uPo (bs.getD 0 0)))), (6, .int (nI ((bs.getD (0 + 1) 0) / 128))), (7, .int (nI ((uCx bs (bs.getD (0 + 1) 0) 0)))), (0, .ref (tw_ad G 114))] 410 [.int (nI (bs.getD (uA6 (bs.getD 0 0) (bs.getD (0 + 1) 0) 0) 0))]
            refine tw_istore (L' := [(12, .int (nI (bs.getD (uA6 (bs.getD 0 0) (bs.getD (0 + 1) 0) 0) 0))), (11, .int (nI ((uA6 (bs.getD 0 0) (bs.getD (0 + 1) 0) 0)))), (10, .int ((-2))), (1, .int z), (2, .int (nI ((bs.getD 0 0)))), (4, .int (nI (uTF (bs.getD 0 0)))), (5, .int (bI (uPo (bs.getD 0 0)))), (6, .int (nI ((bs.getD (0 + 1) 0) / 128))), (7, .int (nI ((uCx bs (bs.getD (0 + 1) 0) 0)))), (0, .ref (tw_ad G 114))]) C N dX11_unfolds_410 (i := 12) (by decide) rfl ?_
            refine tw_aload_n C dX11_unfolds_412 9 rfl ?_
            have hpf7 := pF_io bs.length ((uA6 (bs.getD 0 0) (bs.getD (0 + 1) 0) 0) + 1)
            refine tw_getI (v := nI (pF bs.length ((uA6 (bs.getD 0 0) (bs.getD (0 + 1) 0) 0) + 1))) (k := 21) C dX11_unfolds_413 fc_X11 sh_114 (hM 114 (by decide) (by decide)) rfl (by decide) wd_584 rfl ?_
            refine tn_if_le C dX11_unfolds_416 (tgt := 421) (by decide) (by omega) (fun c5 => ?_) (fun c5 => ?_)
            · have hle7 : ((uA6 (bs.getD 0 0) (bs.getD (0 + 1) 0) 0) + 1) ≤ bs.length := by omega
              refine tw_iload C dX11_unfolds_421 0 rfl ?_
              refine tw_sipush C dX11_unfolds_423 (v := nI 240) (by decide) ?_
              refine tw_sipush C dX11_unfolds_426 (v := nI 243) (by decide) ?_
              refine tw_callS (As := [.int (nI (bs.getD (uA6 (bs.getD 0 0) (bs.getD (0 + 1) 0) 0) 0)), .int (nI 240), .int (nI 243)]) (rest := []) C N (c_X11_in1 (S := PU (MF S (uSrc (bs.getD (0 + 1) 0)) (uGoal (bs.getD (0 + 1) 0))) g3 bs.length ((uA6 (bs.getD 0 0) (bs.getD (0 + 1) 0) 0) + 1)) (v := bs.getD (uA6 (bs.getD 0 0) (bs.getD (0 + 1) 0) 0) 0) (lo := 240) (hi := 243) (by omega) (by omega) (by omega)) mm_X11_in wd_135 rfl (by decide) rfl (Nat.le_of_ble_eq_true rfl) dX11_unfolds_429 ?_
              rintro _ _ ⟨rfl, rfl⟩
              show TW G X (PU (MF S (uSrc (bs.getD (0 + 1) 0)) (uGoal (bs.getD (0 + 1) 0))) g3 bs.length ((uA6 (bs.getD 0 0) (bs.getD (0 + 1) 0) 0) + 1)) [(12, .int (nI (bs.getD (uA6 (bs.getD 0 0) (bs.getD (0 + 1) 0) 0) 0))), (11, .int (nI ((uA6 (bs.getD 0 0) (bs.getD (0 + 1) 0) 0)))), (10, .int ((-2))), (1, .int z), (2, .int (nI ((bs.getD 0 0)))), (4, .int (nI (uTF (bs.getD 0 0)))), (5, .int (bI (uPo (bs.getD 0 0)))), (6, .int (nI ((bs.getD (0 + 1) 0) / 128))), (7, .int (nI ((uCx bs (bs.getD (0 + 1) 0) 0)))), (0, .ref (tw_ad G 114))] 432 [.int (bI (decide (240 ≤ bs.getD (uA6 (bs.getD 0 0) (bs.getD (0 + 1) 0) 0) 0 ∧ bs.getD (uA6 (bs.getD 0 0) (bs.getD (0 + 1) 0) 0) 0 ≤ 243)))]
              refine tb_if_ne C dX11_unfolds_432 (tgt := 444) (by decide) (fun hin => ?_) (fun hin => ?_)
              · skip
                have hin2 := of_decide_eq_true hin
                refine tw_iload C dX11_unfolds_444 0 rfl ?_
                refine tw_sipush C dX11_unfolds_446 (v := nI 240) (by decide) ?_
                refine tw_isub C dX11_unfolds_449 (v := nI ((bs.getD (uA6 (bs.getD 0 0) (bs.getD (0 + 1) 0) 0) 0) - 240)) (pk_sub (by omega)) ?_
                refine tw_istore (L' := [(10, .int (nI ((bs.getD (uA6 (bs.getD 0 0) (bs.getD (0 + 1) 0) 0) 0) - 240))), (12, .int (nI (bs.getD (uA6 (bs.getD 0 0) (bs.getD (0 + 1) 0) 0) 0))), (11, .int (nI ((uA6 (bs.getD 0 0) (bs.getD (0 + 1) 0) 0)))), (1, .int z), (2, .int (nI ((bs.getD 0 0)))), (4, .int (nI (uTF (bs.getD 0 0)))), (5, .int (bI (uPo (bs.getD 0 0)))), (6, .int (nI ((bs.getD (0 + 1) 0) / 128))), (7, .int (nI ((uCx bs (bs.getD (0 + 1) 0) 0)))), (0, .ref (tw_ad G 114))]) C N dX11_unfolds_450 (i := 10) (by decide) rfl ?_
                refine tw_aload_n C dX11_unfolds_452 9 rfl ?_
                refine tw_iload C dX11_unfolds_453 0 rfl ?_
                refine tw_callV (As := [.int (nI ((bs.getD (uA6 (bs.getD 0 0) (bs.getD (0 + 1) 0) 0) 0) - 240))]) (rest := []) C N (c_X11_unfoldPorts hM (B := (MF S (uSrc (bs.getD (0 + 1) 0)) (uGoal (bs.getD (0 + 1) 0)))) (f := g3) (bs := bs) hB h19 hbl (v := ((uA6 (bs.getD 0 0) (bs.getD (0 + 1) 0) 0) + 1)) hbb (u := (bs.getD (uA6 (bs.getD 0 0) (bs.getD (0 + 1) 0) 0) 0) - 240) (by have := of_decide_eq_true hin; omega)) mm_X11_unfoldPorts wd_629 rfl (hM 114 (by decide) (by decide)) sh_114 rfl (by decide) rfl (Nat.le_of_ble_eq_true rfl) dX11_unfolds_455 ?_
                rintro _ _ ⟨g4, rfl, hb4, hb46, hf4⟩
                show TW G X (PU (MF S (uSrc (bs.getD (0 + 1) 0)) (uGoal (bs.getD (0 + 1) 0))) g4 bs.length (((uA6 (bs.getD 0 0) (bs.getD (0 + 1) 0) 0) + 1) + pfN ((bs.getD (uA6 (bs.getD 0 0) (bs.getD (0 + 1) 0) 0) 0) - 240) + 2)) [(10, .int (nI ((bs.getD (uA6 (bs.getD 0 0) (bs.getD (0 + 1) 0) 0) 0) - 240))), (12, .int (nI (bs.getD (uA6 (bs.getD 0 0) (bs.getD (0 + 1) 0) 0) 0))), (11, .int (nI ((uA6 (bs.getD 0 0) (bs.getD (0 + 1) 0) 0)))), (1, .int z), (2, .int (nI ((bs.getD 0 0)))), (4, .int (nI (uTF (bs.getD 0 0)))), (5, .int (bI (uPo (bs.getD 0 0)))), (6, .int (nI ((bs.getD (0 + 1) 0) / 128))), (7, .int (nI ((uCx bs (bs.getD (0 + 1) 0) 0)))), (0, .ref (tw_ad G 114))] 458 []
                refine tw_aload_n C dX11_unfolds_458 9 rfl ?_
                have hpf8 := pF_io bs.length (((uA6 (bs.getD 0 0) (bs.getD (0 + 1) 0) 0) + 1) + pfN ((bs.getD (uA6 (bs.getD 0 0) (bs.getD (0 + 1) 0) 0) 0) - 240) + 2)
                refine tw_getI (v := nI (pF bs.length (((uA6 (bs.getD 0 0) (bs.getD (0 + 1) 0) 0) + 1) + pfN ((bs.getD (uA6 (bs.getD 0 0) (bs.getD (0 + 1) 0) 0) 0) - 240) + 2))) (k := 21) C dX11_unfolds_459 fc_X11 sh_114 (hM 114 (by decide) (by decide)) rfl (by decide) wd_584 rfl ?_
                refine tn_if_le C dX11_unfolds_462 (tgt := 467) (by decide) (by omega) (fun c8 => ?_) (fun c8 => ?_)
                · have hle8 : (((uA6 (bs.getD 0 0) (bs.getD (0 + 1) 0) 0) + 1) + pfN ((bs.getD (uA6 (bs.getD 0 0) (bs.getD (0 + 1) 0) 0) 0) - 240) + 2) ≤ bs.length := by omega
                  refine TW.sS (S' := PU (MF S (uSrc (bs.getD (0 + 1) 0)) (uGoal (bs.getD (0 + 1) 0))) g4 bs.length (uA7 bs (bs.getD 0 0) (bs.getD (0 + 1) 0) 0)) (by rw [uA7_p hp7]) ?_
                  refine TW.c (L' := [(10, .int (nI ((bs.getD (uA6 (bs.getD 0 0) (bs.getD (0 + 1) 0) 0) 0) - 240))), (1, .int z), (4, .int (nI (uTF (bs.getD 0 0)))), (5, .int (bI (uPo (bs.getD 0 0)))), (6, .int (nI ((bs.getD (0 + 1) 0) / 128))), (0, .ref (tw_ad G 114))]) (by simp) ?_
                  exact t467 g4 _ (BK_cg hb1 (fun q h3 h4 => (hf4 q (by simp only [be_len, uAd_len, List.length_cons, List.length_nil] at h4; omega)).trans ((hf3 q (by simp only [be_len, uAd_len, List.length_cons, List.length_nil] at h4; omega)).trans (hf2 q (by simp only [be_len, uAd_len, List.length_cons, List.length_nil] at h4; omega))))) (BK_cg h6 (fun q h3 h4 => (hf4 q (by simp only [be_len, uAd_len, List.length_cons, List.length_nil] at h4; omega)).trans ((hf3 q (by simp only [be_len, uAd_len, List.length_cons, List.length_nil] at h4; omega)).trans (hf2 q (by simp only [be_len, uAd_len, List.length_cons, List.length_nil] at h4; omega))))) (BK_cg hb2 (fun q h3 h4 => (hf4 q (by simp only [be_len, uAd_len, List.length_cons, List.length_nil] at h4; omega)).trans (hf3 q (by simp only [be_len, uAd_len, List.length_cons, List.length_nil] at h4; omega)))) (BK_cg hb3 (fun q h3 h4 => hf4 q (by simp only [be_len, uAd_len, List.length_cons, List.length_nil] at h4; omega))) (fun _ => ⟨hb4, hb46⟩) (by rw [if_pos hp7]; rfl) (uFt_p4 ⟨hu2, hu3, hu4⟩ hle6 hp7 (by have := of_decide_eq_true hin; omega) hle8) (by rw [uA7_p hp7]; exact hle8)
                · have hlt8 : bs.length < (((uA6 (bs.getD 0 0) (bs.getD (0 + 1) 0) 0) + 1) + pfN ((bs.getD (uA6 (bs.getD 0 0) (bs.getD (0 + 1) 0) 0) 0) - 240) + 2) := by omega
                  refine tw_iconst C dX11_unfolds_465 (v := nI 0) (by decide) ?_
                  exact tw_ireturn C Q dX11_unfolds_466 rfl rfl rfl (uBad1 (MI_MF hI) (uFt_p3 ⟨hu2, hu3, hu4⟩ hle6 hp7 hle7 (by have := of_decide_eq_true hin; omega) hlt8) (by omega))
              · skip
                refine tw_aload_n C dX11_unfolds_435 9 rfl ?_
                refine tw_bipush C dX11_unfolds_436 (v := nI 6) (by decide) ?_
                refine tw_iload C dX11_unfolds_438 1 rfl ?_
                refine tw_callV (As := [.int (nI 6), .int (nI ((uA6 (bs.getD 0 0) (bs.getD (0 + 1) 0) 0)))]) (rest := []) C N (c_X11_fails hM (S := PU (MF S (uSrc (bs.getD (0 + 1) 0)) (uGoal (bs.getD (0 + 1) 0))) g3 bs.length ((uA6 (bs.getD 0 0) (bs.getD (0 + 1) 0) 0) + 1)) (w := 6) (u := (uA6 (bs.getD 0 0) (bs.getD (0 + 1) 0) 0)) (by omega) (by show nI (pF bs.length ((uA6 (bs.getD 0 0) (bs.getD (0 + 1) 0) 0) + 1)) = nI 0; rw [pF, if_pos (by omega)])) mm_X11_fails wd_597 rfl (hM 114 (by decide) (by decide)) sh_114 rfl (by decide) rfl (Nat.le_of_ble_eq_true rfl) dX11_unfolds_440 ?_
                rintro _ _ ⟨rfl, rfl⟩
                show TW G X (tw_uI (tw_uI (PU (MF S (uSrc (bs.getD (0 + 1) 0)) (uGoal (bs.getD (0 + 1) 0))) g3 bs.length ((uA6 (bs.getD 0 0) (bs.getD (0 + 1) 0) 0) + 1)) 114 21 (nI 6)) 114 22 (nI ((uA6 (bs.getD 0 0) (bs.getD (0 + 1) 0) 0)))) [(12, .int (nI (bs.getD (uA6 (bs.getD 0 0) (bs.getD (0 + 1) 0) 0) 0))), (11, .int (nI ((uA6 (bs.getD 0 0) (bs.getD (0 + 1) 0) 0)))), (10, .int ((-2))), (1, .int z), (2, .int (nI ((bs.getD 0 0)))), (4, .int (nI (uTF (bs.getD 0 0)))), (5, .int (bI (uPo (bs.getD 0 0)))), (6, .int (nI ((bs.getD (0 + 1) 0) / 128))), (7, .int (nI ((uCx bs (bs.getD (0 + 1) 0) 0)))), (0, .ref (tw_ad G 114))] 443 [.int (nI 0)]
                exact tw_ireturn C Q dX11_unfolds_443 rfl rfl rfl (uBad3 (MI_PU (MI_MF hI)) (uFt_p2 ⟨hu2, hu3, hu4⟩ hle6 hp7 hle7 (by have := of_decide_eq_false hin; omega)) (by decide))
            · have hlt7 : bs.length < ((uA6 (bs.getD 0 0) (bs.getD (0 + 1) 0) 0) + 1) := by omega
              refine tw_iconst C dX11_unfolds_419 (v := nI 0) (by decide) ?_
              exact tw_ireturn C Q dX11_unfolds_420 rfl rfl rfl (uBad1 (MI_MF hI) (uFt_p1 ⟨hu2, hu3, hu4⟩ hle6 hp7 hlt7) (by omega))
        · have hlt6 : bs.length < (uA6 (bs.getD 0 0) (bs.getD (0 + 1) 0) 0) := by omega
          refine tw_iconst C dX11_unfolds_389 (v := nI 0) (by decide) ?_
          exact tw_ireturn C Q dX11_unfolds_390 rfl rfl rfl (uBad1 (MI_MF hI) (uFt_a6 ⟨hu2, hu3, hu4⟩ hlt6) (by omega))
      intro g1 hb1 h6 hz7
      have hhl : uHL (bs.getD 0 0) = (bs.getD 0 0) % 4 := rfl
      refine tw_iload_n C dX11_unfolds_318 1 rfl ?_
      refine tw_iconst C dX11_unfolds_319 (v := nI 3) (by decide) ?_
      refine tw_iand C dX11_unfolds_320 (v := nI (((bs.getD 0 0)) % 4)) (nI_andm 2 (by decide)) ?_
      refine tw_istore (L' := [(9, .int (nI (((bs.getD 0 0)) % 4))), (1, .int z), (2, .int (nI ((bs.getD 0 0)))), (4, .int (nI (uTF (bs.getD 0 0)))), (5, .int (bI (uPo (bs.getD 0 0)))), (6, .int (nI ((bs.getD (0 + 1) 0) / 128))), (7, .int (nI ((uCx bs (bs.getD (0 + 1) 0) 0)))), (0, .ref (tw_ad G 114))]) C N dX11_unfolds_321 (i := 9) (by decide) rfl ?_
      refine tw_aload_n C dX11_unfolds_323 7 rfl ?_
      refine tw_bipush C dX11_unfolds_324 (v := nI 7) (by decide) ?_
      refine tw_iload C dX11_unfolds_326 0 rfl ?_
      refine tn_if_ne C dX11_unfolds_328 (tgt := 338) (by decide) (by omega) (fun c1 => ?_) (fun c1 => ?_)
      · skip
        refine tw_iload C dX11_unfolds_338 0 rfl ?_
        refine tw_iconst C dX11_unfolds_340 (v := nI 1) (by decide) ?_
        refine tn_icmp_ne C dX11_unfolds_341 (tgt := 348) (by decide) (by omega) (by omega) (fun c2 => ?_) (fun c2 => ?_)
        · skip
          refine tw_iload C dX11_unfolds_348 0 rfl ?_
          refine tw_iconst C dX11_unfolds_350 (v := nI 2) (by decide) ?_
          refine tn_icmp_ne C dX11_unfolds_351 (tgt := 359) (by decide) (by omega) (by omega) (fun c3 => ?_) (fun c3 => ?_)
          · skip
            refine tw_sipush C dX11_unfolds_359 (v := nI 255) (by decide) ?_
            refine tw_callV (As := [.int (nI 7), .int (nI 255)]) (rest := []) C N (c_X11_set hM (B := (MF S (uSrc (bs.getD (0 + 1) 0)) (uGoal (bs.getD (0 + 1) 0)))) (f := g1) (L := bs.length) (v := ((uA2 (bs.getD 0 0) (bs.getD (0 + 1) 0) 0) + (if uPo (bs.getD 0 0) then 0 else 1))) (i := 7) (x := 255) (by omega)) mm_X11_set wd_605 rfl (hM 114 (by decide) (by decide)) sh_114 rfl (by decide) rfl (Nat.le_of_ble_eq_true rfl) dX11_unfolds_362 ?_
            rintro _ _ rfl
            show TW G X (PU (MF S (uSrc (bs.getD (0 + 1) 0)) (uGoal (bs.getD (0 + 1) 0))) (upd g1 7 (nI (255 % 256))) bs.length ((uA2 (bs.getD 0 0) (bs.getD (0 + 1) 0) 0) + (if uPo (bs.getD 0 0) then 0 else 1))) [(9, .int (nI (((bs.getD 0 0)) % 4))), (1, .int z), (2, .int (nI ((bs.getD 0 0)))), (4, .int (nI (uTF (bs.getD 0 0)))), (5, .int (bI (uPo (bs.getD 0 0)))), (6, .int (nI ((bs.getD (0 + 1) 0) / 128))), (7, .int (nI ((uCx bs (bs.getD (0 + 1) 0) 0)))), (0, .ref (tw_ad G 114))] 365 []
            refine TW.sS (S' := PU (MF S (uSrc (bs.getD (0 + 1) 0)) (uGoal (bs.getD (0 + 1) 0))) (upd g1 7 (nI (255 % 256))) bs.length (uA4 (bs.getD 0 0) (bs.getD (0 + 1) 0) 0)) (by show _ = PU (MF S (uSrc (bs.getD (0 + 1) 0)) (uGoal (bs.getD (0 + 1) 0))) _ _ ((uA2 (bs.getD 0 0) (bs.getD (0 + 1) 0) 0) + (if uPo (bs.getD 0 0) then 0 else 1) + (if uHL (bs.getD 0 0) = 0 then 1 else 0)); rw [if_neg (show ¬ uHL (bs.getD 0 0) = 0 by omega)] <;> rfl) ?_
            refine TW.c (L' := [(1, .int z), (2, .int (nI ((bs.getD 0 0)))), (4, .int (nI (uTF (bs.getD 0 0)))), (5, .int (bI (uPo (bs.getD 0 0)))), (6, .int (nI ((bs.getD (0 + 1) 0) / 128))), (7, .int (nI ((uCx bs (bs.getD (0 + 1) 0) 0)))), (0, .ref (tw_ad G 114))]) (by simp) ?_
            exact t365 _ (BK_cg hb1 (fun q h3 h4 => by rw [be_len] at h4; simp only [upd, show ¬ q = 7 by omega, if_false])) (BK_22 h6 (by rw [if_neg (show ¬ uHL (bs.getD 0 0) = 0 by omega), if_neg (by omega), if_neg (by omega)]; show nI (_ % 256) = _; rfl)) (fun q h3 h4 => by simp only [upd, show ¬ q = 7 by omega, if_false]; exact hz7 q (by omega) h4)
          · skip
            refine tw_bipush C dX11_unfolds_354 (v := nI 64) (by decide) ?_
            refine tw_goto C dX11_unfolds_356 (tgt := 362) (by decide) ?_
            refine tw_callV (As := [.int (nI 7), .int (nI 64)]) (rest := []) C N (c_X11_set hM (B := (MF S (uSrc (bs.getD (0 + 1) 0)) (uGoal (bs.getD (0 + 1) 0)))) (f := g1) (L := bs.length) (v := ((uA2 (bs.getD 0 0) (bs.getD (0 + 1) 0) 0) + (if uPo (bs.getD 0 0) then 0 else 1))) (i := 7) (x := 64) (by omega)) mm_X11_set wd_605 rfl (hM 114 (by decide) (by decide)) sh_114 rfl (by decide) rfl (Nat.le_of_ble_eq_true rfl) dX11_unfolds_362 ?_
            rintro _ _ rfl
            show TW G X (PU (MF S (uSrc (bs.getD (0 + 1) 0)) (uGoal (bs.getD (0 + 1) 0))) (upd g1 7 (nI (64 % 256))) bs.length ((uA2 (bs.getD 0 0) (bs.getD (0 + 1) 0) 0) + (if uPo (bs.getD 0 0) then 0 else 1))) [(9, .int (nI (((bs.getD 0 0)) % 4))), (1, .int z), (2, .int (nI ((bs.getD 0 0)))), (4, .int (nI (uTF (bs.getD 0 0)))), (5, .int (bI (uPo (bs.getD 0 0)))), (6, .int (nI ((bs.getD (0 + 1) 0) / 128))), (7, .int (nI ((uCx bs (bs.getD (0 + 1) 0) 0)))), (0, .ref (tw_ad G 114))] 365 []
            refine TW.sS (S' := PU (MF S (uSrc (bs.getD (0 + 1) 0)) (uGoal (bs.getD (0 + 1) 0))) (upd g1 7 (nI (64 % 256))) bs.length (uA4 (bs.getD 0 0) (bs.getD (0 + 1) 0) 0)) (by show _ = PU (MF S (uSrc (bs.getD (0 + 1) 0)) (uGoal (bs.getD (0 + 1) 0))) _ _ ((uA2 (bs.getD 0 0) (bs.getD (0 + 1) 0) 0) + (if uPo (bs.getD 0 0) then 0 else 1) + (if uHL (bs.getD 0 0) = 0 then 1 else 0)); rw [if_neg (show ¬ uHL (bs.getD 0 0) = 0 by omega)] <;> rfl) ?_
            refine TW.c (L' := [(1, .int z), (2, .int (nI ((bs.getD 0 0)))), (4, .int (nI (uTF (bs.getD 0 0)))), (5, .int (bI (uPo (bs.getD 0 0)))), (6, .int (nI ((bs.getD (0 + 1) 0) / 128))), (7, .int (nI ((uCx bs (bs.getD (0 + 1) 0) 0)))), (0, .ref (tw_ad G 114))]) (by simp) ?_
            exact t365 _ (BK_cg hb1 (fun q h3 h4 => by rw [be_len] at h4; simp only [upd, show ¬ q = 7 by omega, if_false])) (BK_22 h6 (by rw [if_neg (show ¬ uHL (bs.getD 0 0) = 0 by omega), if_neg (by omega), if_pos (by omega)]; show nI (_ % 256) = _; rfl)) (fun q h3 h4 => by simp only [upd, show ¬ q = 7 by omega, if_false]; exact hz7 q (by omega) h4)
        · skip
          refine tw_iconst C dX11_unfolds_344 (v := nI 1) (by decide) ?_
          refine tw_goto C dX11_unfolds_345 (tgt := 362) (by decide) ?_
          refine tw_callV (As := [.int (nI 7), .int (nI 1)]) (rest := []) C N (c_X11_set hM (B := (MF S (uSrc (bs.getD (0 + 1) 0)) (uGoal (bs.getD (0 + 1) 0)))) (f := g1) (L := bs.length) (v := ((uA2 (bs.getD 0 0) (bs.getD (0 + 1) 0) 0) + (if uPo (bs.getD 0 0) then 0 else 1))) (i := 7) (x := 1) (by omega)) mm_X11_set wd_605 rfl (hM 114 (by decide) (by decide)) sh_114 rfl (by decide) rfl (Nat.le_of_ble_eq_true rfl) dX11_unfolds_362 ?_
          rintro _ _ rfl
          show TW G X (PU (MF S (uSrc (bs.getD (0 + 1) 0)) (uGoal (bs.getD (0 + 1) 0))) (upd g1 7 (nI (1 % 256))) bs.length ((uA2 (bs.getD 0 0) (bs.getD (0 + 1) 0) 0) + (if uPo (bs.getD 0 0) then 0 else 1))) [(9, .int (nI (((bs.getD 0 0)) % 4))), (1, .int z), (2, .int (nI ((bs.getD 0 0)))), (4, .int (nI (uTF (bs.getD 0 0)))), (5, .int (bI (uPo (bs.getD 0 0)))), (6, .int (nI ((bs.getD (0 + 1) 0) / 128))), (7, .int (nI ((uCx bs (bs.getD (0 + 1) 0) 0)))), (0, .ref (tw_ad G 114))] 365 []
          refine TW.sS (S' := PU (MF S (uSrc (bs.getD (0 + 1) 0)) (uGoal (bs.getD (0 + 1) 0))) (upd g1 7 (nI (1 % 256))) bs.length (uA4 (bs.getD 0 0) (bs.getD (0 + 1) 0) 0)) (by show _ = PU (MF S (uSrc (bs.getD (0 + 1) 0)) (uGoal (bs.getD (0 + 1) 0))) _ _ ((uA2 (bs.getD 0 0) (bs.getD (0 + 1) 0) 0) + (if uPo (bs.getD 0 0) then 0 else 1) + (if uHL (bs.getD 0 0) = 0 then 1 else 0)); rw [if_neg (show ¬ uHL (bs.getD 0 0) = 0 by omega)] <;> rfl) ?_
          refine TW.c (L' := [(1, .int z), (2, .int (nI ((bs.getD 0 0)))), (4, .int (nI (uTF (bs.getD 0 0)))), (5, .int (bI (uPo (bs.getD 0 0)))), (6, .int (nI ((bs.getD (0 + 1) 0) / 128))), (7, .int (nI ((uCx bs (bs.getD (0 + 1) 0) 0)))), (0, .ref (tw_ad G 114))]) (by simp) ?_
          exact t365 _ (BK_cg hb1 (fun q h3 h4 => by rw [be_len] at h4; simp only [upd, show ¬ q = 7 by omega, if_false])) (BK_22 h6 (by rw [if_neg (show ¬ uHL (bs.getD 0 0) = 0 by omega), if_pos (by omega)]; show nI (_ % 256) = _; rfl)) (fun q h3 h4 => by simp only [upd, show ¬ q = 7 by omega, if_false]; exact hz7 q (by omega) h4)
      · skip
        refine tw_aload_n C dX11_unfolds_331 7 rfl ?_
        refine tw_callV (As := []) (rest := [.int (nI 7), .ref (tw_ad G 114)]) C N (c_X11_next hM (B := (MF S (uSrc (bs.getD (0 + 1) 0)) (uGoal (bs.getD (0 + 1) 0)))) (f := g1) (bs := bs) (v := ((uA2 (bs.getD 0 0) (bs.getD (0 + 1) 0) 0) + (if uPo (bs.getD 0 0) then 0 else 1))) hB h19 hbl) mm_X11_next wd_593 rfl (hM 114 (by decide) (by decide)) sh_114 rfl (by decide) rfl (Nat.le_of_ble_eq_true rfl) dX11_unfolds_332 ?_
        rintro _ _ ⟨rfl, rfl⟩
        show TW G X (PU (MF S (uSrc (bs.getD (0 + 1) 0)) (uGoal (bs.getD (0 + 1) 0))) g1 bs.length (((uA2 (bs.getD 0 0) (bs.getD (0 + 1) 0) 0) + (if uPo (bs.getD 0 0) then 0 else 1)) + 1)) [(9, .int (nI (((bs.getD 0 0)) % 4))), (1, .int z), (2, .int (nI ((bs.getD 0 0)))), (4, .int (nI (uTF (bs.getD 0 0)))), (5, .int (bI (uPo (bs.getD 0 0)))), (6, .int (nI ((bs.getD (0 + 1) 0) / 128))), (7, .int (nI ((uCx bs (bs.getD (0 + 1) 0) 0)))), (0, .ref (tw_ad G 114))] 335 [.int (nI (bs.getD ((uA2 (bs.getD 0 0) (bs.getD (0 + 1) 0) 0) + (if uPo (bs.getD 0 0) then 0 else 1)) 0)), .int (nI 7), .ref (tw_ad G 114)]
        refine tw_goto C dX11_unfolds_335 (tgt := 362) (by decide) ?_
        refine tw_callV (As := [.int (nI 7), .int (nI (bs.getD ((uA2 (bs.getD 0 0) (bs.getD (0 + 1) 0) 0) + (if uPo (bs.getD 0 0) then 0 else 1)) 0))]) (rest := []) C N (c_X11_set hM (B := (MF S (uSrc (bs.getD (0 + 1) 0)) (uGoal (bs.getD (0 + 1) 0)))) (f := g1) (L := bs.length) (v := (((uA2 (bs.getD 0 0) (bs.getD (0 + 1) 0) 0) + (if uPo (bs.getD 0 0) then 0 else 1)) + 1)) (i := 7) (x := bs.getD ((uA2 (bs.getD 0 0) (bs.getD (0 + 1) 0) 0) + (if uPo (bs.getD 0 0) then 0 else 1)) 0) (by omega)) mm_X11_set wd_605 rfl (hM 114 (by decide) (by decide)) sh_114 rfl (by decide) rfl (Nat.le_of_ble_eq_true rfl) dX11_unfolds_362 ?_
        rintro _ _ rfl
        show TW G X (PU (MF S (uSrc (bs.getD (0 + 1) 0)) (uGoal (bs.getD (0 + 1) 0))) (upd g1 7 (nI ((bs.getD ((uA2 (bs.getD 0 0) (bs.getD (0 + 1) 0) 0) + (if uPo (bs.getD 0 0) then 0 else 1)) 0) % 256))) bs.length (((uA2 (bs.getD 0 0) (bs.getD (0 + 1) 0) 0) + (if uPo (bs.getD 0 0) then 0 else 1)) + 1)) [(9, .int (nI (((bs.getD 0 0)) % 4))), (1, .int z), (2, .int (nI ((bs.getD 0 0)))), (4, .int (nI (uTF (bs.getD 0 0)))), (5, .int (bI (uPo (bs.getD 0 0)))), (6, .int (nI ((bs.getD (0 + 1) 0) / 128))), (7, .int (nI ((uCx bs (bs.getD (0 + 1) 0) 0)))), (0, .ref (tw_ad G 114))] 365 []
        refine TW.sS (S' := PU (MF S (uSrc (bs.getD (0 + 1) 0)) (uGoal (bs.getD (0 + 1) 0))) (upd g1 7 (nI ((bs.getD ((uA2 (bs.getD 0 0) (bs.getD (0 + 1) 0) 0) + (if uPo (bs.getD 0 0) then 0 else 1)) 0) % 256))) bs.length (uA4 (bs.getD 0 0) (bs.getD (0 + 1) 0) 0)) (by show _ = PU (MF S (uSrc (bs.getD (0 + 1) 0)) (uGoal (bs.getD (0 + 1) 0))) _ _ ((uA2 (bs.getD 0 0) (bs.getD (0 + 1) 0) 0) + (if uPo (bs.getD 0 0) then 0 else 1) + (if uHL (bs.getD 0 0) = 0 then 1 else 0)); rw [if_pos (show uHL (bs.getD 0 0) = 0 by omega)] <;> rfl) ?_
        refine TW.c (L' := [(1, .int z), (2, .int (nI ((bs.getD 0 0)))), (4, .int (nI (uTF (bs.getD 0 0)))), (5, .int (bI (uPo (bs.getD 0 0)))), (6, .int (nI ((bs.getD (0 + 1) 0) / 128))), (7, .int (nI ((uCx bs (bs.getD (0 + 1) 0) 0)))), (0, .ref (tw_ad G 114))]) (by simp) ?_
        exact t365 _ (BK_cg hb1 (fun q h3 h4 => by rw [be_len] at h4; simp only [upd, show ¬ q = 7 by omega, if_false])) (BK_22 h6 (by rw [if_pos (show uHL (bs.getD 0 0) = 0 by omega)]; show nI (_ % 256) = _; rw [gD_m hbb])) (fun q h3 h4 => by simp only [upd, show ¬ q = 7 by omega, if_false]; exact hz7 q (by omega) h4)
    have t287 : ∀ (_ : u2 K bs 0), TW G X (PU (MF S (uSrc (bs.getD (0 + 1) 0)) (uGoal (bs.getD (0 + 1) 0))) g bs.length (uA1 (bs.getD (0 + 1) 0) 0)) [(1, .int z), (2, .int (nI ((bs.getD 0 0)))), (4, .int (nI (uTF (bs.getD 0 0)))), (5, .int (bI (uPo (bs.getD 0 0)))), (6, .int (nI ((bs.getD (0 + 1) 0) / 128))), (7, .int (nI ((uCx bs (bs.getD (0 + 1) 0) 0)))), (0, .ref (tw_ad G 114))] 287 [] := by
      intro hu2
      have hle5 := hu2.2.1
      have hu1 := hu2.1
      refine tw_aload_n C dX11_unfolds_287 6 rfl ?_
      refine tw_iload C dX11_unfolds_288 2 rfl ?_
      refine tw_callV (As := [.int (nI (uTF (bs.getD 0 0)))]) (rest := []) C N (c_X11_unfoldsFirst hM (B := (MF S (uSrc (bs.getD (0 + 1) 0)) (uGoal (bs.getD (0 + 1) 0)))) (f := g) (bs := bs) hB h19 hbl (v := (uA1 (bs.getD (0 + 1) 0) 0)) hbb (u := uTF (bs.getD 0 0)) (by omega) hle5) mm_X11_unfoldsFirst wd_601 rfl (hM 114 (by decide) (by decide)) sh_114 rfl (by decide) rfl (Nat.le_of_ble_eq_true rfl) dX11_unfolds_290 ?_
      rintro _ _ (⟨hlt, rfl, rfl⟩ | ⟨hle, hwr, rfl, rfl⟩ | ⟨hu3, hu4, rfl, g1, rfl, hb1, hf1⟩)
      · show TW G X (PU (MF S (uSrc (bs.getD (0 + 1) 0)) (uGoal (bs.getD (0 + 1) 0))) g bs.length ((uA1 (bs.getD (0 + 1) 0) 0) + tfN (uTF (bs.getD 0 0)))) [(1, .int z), (2, .int (nI ((bs.getD 0 0)))), (4, .int (nI (uTF (bs.getD 0 0)))), (5, .int (bI (uPo (bs.getD 0 0)))), (6, .int (nI ((bs.getD (0 + 1) 0) / 128))), (7, .int (nI ((uCx bs (bs.getD (0 + 1) 0) 0)))), (0, .ref (tw_ad G 114))] 293 [.int (nI 0)]
        refine tn_if_ne C dX11_unfolds_293 (tgt := 298) (by decide) (by omega) (fun c2 => ?_) (fun c2 => ?_)
        · exact absurd c2 (by decide)
        refine tw_iconst C dX11_unfolds_296 (v := nI 0) (by decide) ?_
        exact tw_ireturn C Q dX11_unfolds_297 rfl rfl rfl (uBad1 (MI_MF hI) (uFt_t1 hu2 hlt) (by omega))
      · show TW G X (tw_uI (tw_uI (PU (MF S (uSrc (bs.getD (0 + 1) 0)) (uGoal (bs.getD (0 + 1) 0))) g bs.length ((uA1 (bs.getD (0 + 1) 0) 0) + tfN (uTF (bs.getD 0 0)))) 114 21 (nI 5)) 114 22 (nI (uA1 (bs.getD (0 + 1) 0) 0))) [(1, .int z), (2, .int (nI ((bs.getD 0 0)))), (4, .int (nI (uTF (bs.getD 0 0)))), (5, .int (bI (uPo (bs.getD 0 0)))), (6, .int (nI ((bs.getD (0 + 1) 0) / 128))), (7, .int (nI ((uCx bs (bs.getD (0 + 1) 0) 0)))), (0, .ref (tw_ad G 114))] 293 [.int (nI 0)]
        refine tn_if_ne C dX11_unfolds_293 (tgt := 298) (by decide) (by omega) (fun c3 => ?_) (fun c3 => ?_)
        · exact absurd c3 (by decide)
        refine tw_iconst C dX11_unfolds_296 (v := nI 0) (by decide) ?_
        exact tw_ireturn C Q dX11_unfolds_297 rfl rfl rfl (uBad3 (MI_PU (MI_MF hI)) (uFt_t2 hu2 hle hwr) (by decide))
      · show TW G X (PU (MF S (uSrc (bs.getD (0 + 1) 0)) (uGoal (bs.getD (0 + 1) 0))) g1 bs.length ((uA1 (bs.getD (0 + 1) 0) 0) + tfN (uTF (bs.getD 0 0)))) [(1, .int z), (2, .int (nI ((bs.getD 0 0)))), (4, .int (nI (uTF (bs.getD 0 0)))), (5, .int (bI (uPo (bs.getD 0 0)))), (6, .int (nI ((bs.getD (0 + 1) 0) / 128))), (7, .int (nI ((uCx bs (bs.getD (0 + 1) 0) 0)))), (0, .ref (tw_ad G 114))] 293 [.int (nI 1)]
        refine tn_if_ne C dX11_unfolds_293 (tgt := 298) (by decide) (by omega) (fun c4 => ?_) (fun c4 => ?_)
        · skip
          refine tw_aload_n C dX11_unfolds_298 6 rfl ?_
          refine tw_bipush C dX11_unfolds_299 (v := nI 6) (by decide) ?_
          refine tw_iload C dX11_unfolds_301 3 rfl ?_
          refine tb_if_eq C dX11_unfolds_303 (tgt := 311) (by decide) (fun hp6 => ?_) (fun hp6 => ?_)
          · skip
            refine tw_aload_n C dX11_unfolds_311 6 rfl ?_
            refine tw_callV (As := []) (rest := [.int (nI 6), .ref (tw_ad G 114)]) C N (c_X11_next hM (B := (MF S (uSrc (bs.getD (0 + 1) 0)) (uGoal (bs.getD (0 + 1) 0)))) (f := g1) (bs := bs) (v := ((uA1 (bs.getD (0 + 1) 0) 0) + tfN (uTF (bs.getD 0 0)))) hB h19 hbl) mm_X11_next wd_593 rfl (hM 114 (by decide) (by decide)) sh_114 rfl (by decide) rfl (Nat.le_of_ble_eq_true rfl) dX11_unfolds_312 ?_
            rintro _ _ ⟨rfl, rfl⟩
            show TW G X (PU (MF S (uSrc (bs.getD (0 + 1) 0)) (uGoal (bs.getD (0 + 1) 0))) g1 bs.length (((uA1 (bs.getD (0 + 1) 0) 0) + tfN (uTF (bs.getD 0 0))) + 1)) [(1, .int z), (2, .int (nI ((bs.getD 0 0)))), (4, .int (nI (uTF (bs.getD 0 0)))), (5, .int (bI (uPo (bs.getD 0 0)))), (6, .int (nI ((bs.getD (0 + 1) 0) / 128))), (7, .int (nI ((uCx bs (bs.getD (0 + 1) 0) 0)))), (0, .ref (tw_ad G 114))] 315 [.int (nI (bs.getD ((uA1 (bs.getD (0 + 1) 0) 0) + tfN (uTF (bs.getD 0 0))) 0)), .int (nI 6), .ref (tw_ad G 114)]
            refine tw_callV (As := [.int (nI 6), .int (nI (bs.getD ((uA1 (bs.getD (0 + 1) 0) 0) + tfN (uTF (bs.getD 0 0))) 0))]) (rest := []) C N (c_X11_set hM (B := (MF S (uSrc (bs.getD (0 + 1) 0)) (uGoal (bs.getD (0 + 1) 0)))) (f := g1) (L := bs.length) (v := (((uA1 (bs.getD (0 + 1) 0) 0) + tfN (uTF (bs.getD 0 0))) + 1)) (i := 6) (x := bs.getD ((uA1 (bs.getD (0 + 1) 0) 0) + tfN (uTF (bs.getD 0 0))) 0) (by omega)) mm_X11_set wd_605 rfl (hM 114 (by decide) (by decide)) sh_114 rfl (by decide) rfl (Nat.le_of_ble_eq_true rfl) dX11_unfolds_315 ?_
            rintro _ _ rfl
            show TW G X (PU (MF S (uSrc (bs.getD (0 + 1) 0)) (uGoal (bs.getD (0 + 1) 0))) (upd g1 6 (nI ((bs.getD ((uA1 (bs.getD (0 + 1) 0) 0) + tfN (uTF (bs.getD 0 0))) 0) % 256))) bs.length (((uA1 (bs.getD (0 + 1) 0) 0) + tfN (uTF (bs.getD 0 0))) + 1)) [(1, .int z), (2, .int (nI ((bs.getD 0 0)))), (4, .int (nI (uTF (bs.getD 0 0)))), (5, .int (bI (uPo (bs.getD 0 0)))), (6, .int (nI ((bs.getD (0 + 1) 0) / 128))), (7, .int (nI ((uCx bs (bs.getD (0 + 1) 0) 0)))), (0, .ref (tw_ad G 114))] 318 []
            refine TW.sS (S' := PU (MF S (uSrc (bs.getD (0 + 1) 0)) (uGoal (bs.getD (0 + 1) 0))) (upd g1 6 (nI ((bs.getD ((uA1 (bs.getD (0 + 1) 0) 0) + tfN (uTF (bs.getD 0 0))) 0) % 256))) bs.length ((uA2 (bs.getD 0 0) (bs.getD (0 + 1) 0) 0) + (if uPo (bs.getD 0 0) then 0 else 1))) (by rw [if_neg (by rw [hp6]; decide)]; rfl) ?_
            refine TW.c (L' := [(1, .int z), (2, .int (nI ((bs.getD 0 0)))), (4, .int (nI (uTF (bs.getD 0 0)))), (5, .int (bI (uPo (bs.getD 0 0)))), (6, .int (nI ((bs.getD (0 + 1) 0) / 128))), (7, .int (nI ((uCx bs (bs.getD (0 + 1) 0) 0)))), (0, .ref (tw_ad G 114))]) (by simp) ?_
            exact t318 hu2 hu3 hu4 _ (BK_cg hb1 (fun q h3 h4 => by rw [be_len] at h4; simp only [upd, show ¬ q = 6 by omega, if_false])) (by rw [if_neg (by rw [hp6]; decide)]; show nI (bs.getD _ 0 % 256) = _; rw [gD_m hbb]; rfl) (fun q h3 h4 => by simp only [upd, show ¬ q = 6 by omega, if_false]; exact (hf1 q (by omega)).trans (hz0 q h4))
          · skip
            refine tw_bipush C dX11_unfolds_306 (v := nI 17) (by decide) ?_
            refine tw_goto C dX11_unfolds_308 (tgt := 315) (by decide) ?_
            refine tw_callV (As := [.int (nI 6), .int (nI 17)]) (rest := []) C N (c_X11_set hM (B := (MF S (uSrc (bs.getD (0 + 1) 0)) (uGoal (bs.getD (0 + 1) 0)))) (f := g1) (L := bs.length) (v := ((uA1 (bs.getD (0 + 1) 0) 0) + tfN (uTF (bs.getD 0 0)))) (i := 6) (x := 17) (by omega)) mm_X11_set wd_605 rfl (hM 114 (by decide) (by decide)) sh_114 rfl (by decide) rfl (Nat.le_of_ble_eq_true rfl) dX11_unfolds_315 ?_
            rintro _ _ rfl
            show TW G X (PU (MF S (uSrc (bs.getD (0 + 1) 0)) (uGoal (bs.getD (0 + 1) 0))) (upd g1 6 (nI (17 % 256))) bs.length ((uA1 (bs.getD (0 + 1) 0) 0) + tfN (uTF (bs.getD 0 0)))) [(1, .int z), (2, .int (nI ((bs.getD 0 0)))), (4, .int (nI (uTF (bs.getD 0 0)))), (5, .int (bI (uPo (bs.getD 0 0)))), (6, .int (nI ((bs.getD (0 + 1) 0) / 128))), (7, .int (nI ((uCx bs (bs.getD (0 + 1) 0) 0)))), (0, .ref (tw_ad G 114))] 318 []
            refine TW.sS (S' := PU (MF S (uSrc (bs.getD (0 + 1) 0)) (uGoal (bs.getD (0 + 1) 0))) (upd g1 6 (nI (17 % 256))) bs.length ((uA2 (bs.getD 0 0) (bs.getD (0 + 1) 0) 0) + (if uPo (bs.getD 0 0) then 0 else 1))) (by rw [if_pos hp6]; rfl) ?_
            refine TW.c (L' := [(1, .int z), (2, .int (nI ((bs.getD 0 0)))), (4, .int (nI (uTF (bs.getD 0 0)))), (5, .int (bI (uPo (bs.getD 0 0)))), (6, .int (nI ((bs.getD (0 + 1) 0) / 128))), (7, .int (nI ((uCx bs (bs.getD (0 + 1) 0) 0)))), (0, .ref (tw_ad G 114))]) (by simp) ?_
            exact t318 hu2 hu3 hu4 _ (BK_cg hb1 (fun q h3 h4 => by rw [be_len] at h4; simp only [upd, show ¬ q = 6 by omega, if_false])) (by rw [if_pos hp6]; rfl) (fun q h3 h4 => by simp only [upd, show ¬ q = 6 by omega, if_false]; exact (hf1 q (by omega)).trans (hz0 q h4))
        · exact absurd c4 (by decide)
    have t194 : ∀ (_ : u1 bs 0), TW G X (PU (MF S (uSrc (bs.getD (0 + 1) 0)) (uGoal (bs.getD (0 + 1) 0))) g bs.length (uA1 (bs.getD (0 + 1) 0) 0)) [(1, .int z), (2, .int (nI ((bs.getD 0 0)))), (4, .int (nI (uTF (bs.getD 0 0)))), (5, .int (bI (uPo (bs.getD 0 0)))), (6, .int (nI ((bs.getD (0 + 1) 0) / 128))), (7, .int (nI ((uCx bs (bs.getD (0 + 1) 0) 0)))), (0, .ref (tw_ad G 114))] 194 [] := by
      intro hu1
      have hg12 := hu1.2.2
      refine tw_aload_n C dX11_unfolds_194 6 rfl ?_
      have hpf5 := pF_io bs.length (uA1 (bs.getD (0 + 1) 0) 0)
      refine tw_getI (v := nI (pF bs.length (uA1 (bs.getD (0 + 1) 0) 0))) (k := 21) C dX11_unfolds_195 fc_X11 sh_114 (hM 114 (by decide) (by decide)) rfl (by decide) wd_584 rfl ?_
      refine tn_if_le C dX11_unfolds_198 (tgt := 203) (by decide) (by omega) (fun c1 => ?_) (fun c1 => ?_)
      · have hle5 : (uA1 (bs.getD (0 + 1) 0) 0) ≤ bs.length := by omega
        refine tw_aload_n C dX11_unfolds_203 6 rfl ?_
        refine tw_getI (v := nI (uSrc (bs.getD (0 + 1) 0) / 4)) (k := 11) C dX11_unfolds_204 fc_X11 sh_114 (hM 114 (by decide) (by decide)) rfl (by decide) wd_393 rfl ?_
        refine tw_iconst C dX11_unfolds_207 (v := nI 1) (by decide) ?_
        refine tn_icmp_ne C dX11_unfolds_208 (tgt := 230) (by decide) (by omega) (by omega) (fun c2 => ?_) (fun c2 => ?_)
        · skip
          refine tw_aload_n C dX11_unfolds_230 6 rfl ?_
          refine tw_getI (v := nI (uGoal (bs.getD (0 + 1) 0) / 8)) (k := 14) C dX11_unfolds_231 fc_X11 sh_114 (hM 114 (by decide) (by decide)) rfl (by decide) wd_395 rfl ?_
          refine tn_if_ne C dX11_unfolds_234 (tgt := 262) (by decide) (by omega) (fun c3 => ?_) (fun c3 => ?_)
          · skip
            refine tw_iconst C dX11_unfolds_262 (v := nI 0) (by decide) ?_
            refine tw_istore (L' := [(8, .int (nI 0)), (1, .int z), (2, .int (nI ((bs.getD 0 0)))), (4, .int (nI (uTF (bs.getD 0 0)))), (5, .int (bI (uPo (bs.getD 0 0)))), (6, .int (nI ((bs.getD (0 + 1) 0) / 128))), (7, .int (nI ((uCx bs (bs.getD (0 + 1) 0) 0)))), (0, .ref (tw_ad G 114))]) C N dX11_unfolds_263 (i := 8) (by decide) rfl ?_
            refine tw_iload C dX11_unfolds_265 0 rfl ?_
            refine tn_if_eq C dX11_unfolds_267 (tgt := 287) (by decide) (by omega) (fun c4 => ?_) (fun c4 => ?_)
            · skip
              refine TW.c (L' := [(1, .int z), (2, .int (nI ((bs.getD 0 0)))), (4, .int (nI (uTF (bs.getD 0 0)))), (5, .int (bI (uPo (bs.getD 0 0)))), (6, .int (nI ((bs.getD (0 + 1) 0) / 128))), (7, .int (nI ((uCx bs (bs.getD (0 + 1) 0) 0)))), (0, .ref (tw_ad G 114))]) (by simp) ?_
              exact t287 ⟨hu1, hle5, (uLack_f (by first | exact Or.inl (by omega) | exact Or.inr ck1) (by first | exact Or.inl (by omega) | exact Or.inr ck2))⟩
            · exact absurd c4 (by decide)
          · skip
            refine tw_aload_n C dX11_unfolds_237 6 rfl ?_
            refine tw_getI (v := nI (uGoal (bs.getD (0 + 1) 0) / 4 % 2)) (k := 15) C dX11_unfolds_238 fc_X11 sh_114 (hM 114 (by decide) (by decide)) rfl (by decide) wd_396 rfl ?_
            refine tw_iconst C dX11_unfolds_241 (v := nI 1) (by decide) ?_
            refine tn_icmp_ne C dX11_unfolds_242 (tgt := 262) (by decide) (by omega) (by omega) (fun c5 => ?_) (fun c5 => ?_)
            · skip
              refine tw_iconst C dX11_unfolds_262 (v := nI 0) (by decide) ?_
              refine tw_istore (L' := [(8, .int (nI 0)), (1, .int z), (2, .int (nI ((bs.getD 0 0)))), (4, .int (nI (uTF (bs.getD 0 0)))), (5, .int (bI (uPo (bs.getD 0 0)))), (6, .int (nI ((bs.getD (0 + 1) 0) / 128))), (7, .int (nI ((uCx bs (bs.getD (0 + 1) 0) 0)))), (0, .ref (tw_ad G 114))]) C N dX11_unfolds_263 (i := 8) (by decide) rfl ?_
              refine tw_iload C dX11_unfolds_265 0 rfl ?_
              refine tn_if_eq C dX11_unfolds_267 (tgt := 287) (by decide) (by omega) (fun c6 => ?_) (fun c6 => ?_)
              · skip
                refine TW.c (L' := [(1, .int z), (2, .int (nI ((bs.getD 0 0)))), (4, .int (nI (uTF (bs.getD 0 0)))), (5, .int (bI (uPo (bs.getD 0 0)))), (6, .int (nI ((bs.getD (0 + 1) 0) / 128))), (7, .int (nI ((uCx bs (bs.getD (0 + 1) 0) 0)))), (0, .ref (tw_ad G 114))]) (by simp) ?_
                exact t287 ⟨hu1, hle5, (uLack_f (by first | exact Or.inl (by omega) | exact Or.inr ck1) (by first | exact Or.inl (by omega) | exact Or.inr ck2))⟩
              · exact absurd c6 (by decide)
            · skip
              refine tw_aload_n C dX11_unfolds_245 6 rfl ?_
              refine tw_getR (q := 115) (k := 0) C dX11_unfolds_246 fc_X11 sh_114 (hM 114 (by decide) (by decide)) rfl (by decide) wd_111 ?_
              refine tw_iload C dX11_unfolds_249 5 rfl ?_
              refine tw_bipush C dX11_unfolds_251 (v := nI 15) (by decide) ?_
              refine tw_iand C dX11_unfolds_253 (v := nI (((uCx bs (bs.getD (0 + 1) 0) 0)) % 16)) (nI_andm 4 (by decide)) ?_
              refine tw_zald (v := bI (kT K (((uCx bs (bs.getD (0 + 1) 0) 0)) % 16))) C dX11_unfolds_254 sn_115 sa_115 (hM 115 (by decide) (by decide)) (by omega) (by decide) (hI.1.1 (((uCx bs (bs.getD (0 + 1) 0) 0)) % 16) (by omega)) ?_
              refine tb_if_ne C dX11_unfolds_255 (tgt := 262) (by decide) (fun ck2 => ?_) (fun ck2 => ?_)
              · skip
                refine tw_iconst C dX11_unfolds_262 (v := nI 0) (by decide) ?_
                refine tw_istore (L' := [(8, .int (nI 0)), (1, .int z), (2, .int (nI ((bs.getD 0 0)))), (4, .int (nI (uTF (bs.getD 0 0)))), (5, .int (bI (uPo (bs.getD 0 0)))), (6, .int (nI ((bs.getD (0 + 1) 0) / 128))), (7, .int (nI ((uCx bs (bs.getD (0 + 1) 0) 0)))), (0, .ref (tw_ad G 114))]) C N dX11_unfolds_263 (i := 8) (by decide) rfl ?_
                refine tw_iload C dX11_unfolds_265 0 rfl ?_
                refine tn_if_eq C dX11_unfolds_267 (tgt := 287) (by decide) (by omega) (fun c7 => ?_) (fun c7 => ?_)
                · skip
                  refine TW.c (L' := [(1, .int z), (2, .int (nI ((bs.getD 0 0)))), (4, .int (nI (uTF (bs.getD 0 0)))), (5, .int (bI (uPo (bs.getD 0 0)))), (6, .int (nI ((bs.getD (0 + 1) 0) / 128))), (7, .int (nI ((uCx bs (bs.getD (0 + 1) 0) 0)))), (0, .ref (tw_ad G 114))]) (by simp) ?_
                  exact t287 ⟨hu1, hle5, (uLack_f (by first | exact Or.inl (by omega) | exact Or.inr ck1) (by first | exact Or.inl (by omega) | exact Or.inr ck2))⟩
                · exact absurd c7 (by decide)
              · skip
                refine tw_iconst C dX11_unfolds_258 (v := nI 1) (by decide) ?_
                refine tw_goto C dX11_unfolds_259 (tgt := 263) (by decide) ?_
                refine tw_istore (L' := [(8, .int (nI 1)), (1, .int z), (2, .int (nI ((bs.getD 0 0)))), (4, .int (nI (uTF (bs.getD 0 0)))), (5, .int (bI (uPo (bs.getD 0 0)))), (6, .int (nI ((bs.getD (0 + 1) 0) / 128))), (7, .int (nI ((uCx bs (bs.getD (0 + 1) 0) 0)))), (0, .ref (tw_ad G 114))]) C N dX11_unfolds_263 (i := 8) (by decide) rfl ?_
                refine tw_iload C dX11_unfolds_265 0 rfl ?_
                refine tn_if_eq C dX11_unfolds_267 (tgt := 287) (by decide) (by omega) (fun c8 => ?_) (fun c8 => ?_)
                · exact absurd c8 (by decide)
                refine tw_aload_n C dX11_unfolds_270 7 rfl ?_
                refine tw_iconst C dX11_unfolds_271 (v := nI 4) (by decide) ?_
                refine tw_iload C dX11_unfolds_272 5 rfl ?_
                refine tw_iconst C dX11_unfolds_274 (v := nI 1) (by decide) ?_
                refine tn_icmp_ne C dX11_unfolds_275 (tgt := 282) (by decide) (by omega) (by omega) (fun h275 => ?_) (fun h275 => ?_)
                · have hA : uA1 (bs.getD (0 + 1) 0) 0 = 0 + 2 := if_neg h275
                  refine tw_iconst C dX11_unfolds_282 (v := nI 1) (by decide) ?_
                  refine tw_callV (As := [.int (nI 4), .int (nI 1)]) (rest := []) C N (c_X11_fails hM (S := PU (MF S (uSrc (bs.getD (0 + 1) 0)) (uGoal (bs.getD (0 + 1) 0))) g bs.length (uA1 (bs.getD (0 + 1) 0) 0)) (w := 4) (u := 1) (by omega) (by show nI (pF bs.length (uA1 (bs.getD (0 + 1) 0) 0)) = nI 0; rw [pF, if_pos (by omega)])) mm_X11_fails wd_597 rfl (hM 114 (by decide) (by decide)) sh_114 rfl (by decide) rfl (Nat.le_of_ble_eq_true rfl) dX11_unfolds_283 ?_
                  rintro _ _ ⟨rfl, rfl⟩
                  show TW G X (tw_uI (tw_uI (PU (MF S (uSrc (bs.getD (0 + 1) 0)) (uGoal (bs.getD (0 + 1) 0))) g bs.length (uA1 (bs.getD (0 + 1) 0) 0)) 114 21 (nI 4)) 114 22 (nI 1)) [(8, .int (nI 1)), (1, .int z), (2, .int (nI ((bs.getD 0 0)))), (4, .int (nI (uTF (bs.getD 0 0)))), (5, .int (bI (uPo (bs.getD 0 0)))), (6, .int (nI ((bs.getD (0 + 1) 0) / 128))), (7, .int (nI ((uCx bs (bs.getD (0 + 1) 0) 0)))), (0, .ref (tw_ad G 114))] 286 [.int (nI 0)]
                  exact tw_ireturn C Q dX11_unfolds_286 rfl rfl rfl (uBad3 (MI_PU (MI_MF hI)) ((uFt_6 hu1 hle5 (uLack_t (by first | exact Or.inl ⟨by omega, ck1⟩ | exact Or.inr ⟨by omega, ck2⟩))).trans (by rw [hA])) (by decide))
                · have hA : uA1 (bs.getD (0 + 1) 0) 0 = 0 + 3 := if_pos (by omega)
                  refine tw_iconst C dX11_unfolds_278 (v := nI 2) (by decide) ?_
                  refine tw_goto C dX11_unfolds_279 (tgt := 283) (by decide) ?_
                  refine tw_callV (As := [.int (nI 4), .int (nI 2)]) (rest := []) C N (c_X11_fails hM (S := PU (MF S (uSrc (bs.getD (0 + 1) 0)) (uGoal (bs.getD (0 + 1) 0))) g bs.length (uA1 (bs.getD (0 + 1) 0) 0)) (w := 4) (u := 2) (by omega) (by show nI (pF bs.length (uA1 (bs.getD (0 + 1) 0) 0)) = nI 0; rw [pF, if_pos (by omega)])) mm_X11_fails wd_597 rfl (hM 114 (by decide) (by decide)) sh_114 rfl (by decide) rfl (Nat.le_of_ble_eq_true rfl) dX11_unfolds_283 ?_
                  rintro _ _ ⟨rfl, rfl⟩
                  show TW G X (tw_uI (tw_uI (PU (MF S (uSrc (bs.getD (0 + 1) 0)) (uGoal (bs.getD (0 + 1) 0))) g bs.length (uA1 (bs.getD (0 + 1) 0) 0)) 114 21 (nI 4)) 114 22 (nI 2)) [(8, .int (nI 1)), (1, .int z), (2, .int (nI ((bs.getD 0 0)))), (4, .int (nI (uTF (bs.getD 0 0)))), (5, .int (bI (uPo (bs.getD 0 0)))), (6, .int (nI ((bs.getD (0 + 1) 0) / 128))), (7, .int (nI ((uCx bs (bs.getD (0 + 1) 0) 0)))), (0, .ref (tw_ad G 114))] 286 [.int (nI 0)]
                  exact tw_ireturn C Q dX11_unfolds_286 rfl rfl rfl (uBad3 (MI_PU (MI_MF hI)) ((uFt_6 hu1 hle5 (uLack_t (by first | exact Or.inl ⟨by omega, ck1⟩ | exact Or.inr ⟨by omega, ck2⟩))).trans (by rw [hA])) (by decide))
        · skip
          refine tw_aload_n C dX11_unfolds_211 6 rfl ?_
          refine tw_getI (v := nI (uSrc (bs.getD (0 + 1) 0) % 4)) (k := 12) C dX11_unfolds_212 fc_X11 sh_114 (hM 114 (by decide) (by decide)) rfl (by decide) wd_394 rfl ?_
          refine tn_if_le C dX11_unfolds_215 (tgt := 230) (by decide) (by omega) (fun c11 => ?_) (fun c11 => ?_)
          · skip
            refine tw_aload_n C dX11_unfolds_230 6 rfl ?_
            refine tw_getI (v := nI (uGoal (bs.getD (0 + 1) 0) / 8)) (k := 14) C dX11_unfolds_231 fc_X11 sh_114 (hM 114 (by decide) (by decide)) rfl (by decide) wd_395 rfl ?_
            refine tn_if_ne C dX11_unfolds_234 (tgt := 262) (by decide) (by omega) (fun c12 => ?_) (fun c12 => ?_)
            · skip
              refine tw_iconst C dX11_unfolds_262 (v := nI 0) (by decide) ?_
              refine tw_istore (L' := [(8, .int (nI 0)), (1, .int z), (2, .int (nI ((bs.getD 0 0)))), (4, .int (nI (uTF (bs.getD 0 0)))), (5, .int (bI (uPo (bs.getD 0 0)))), (6, .int (nI ((bs.getD (0 + 1) 0) / 128))), (7, .int (nI ((uCx bs (bs.getD (0 + 1) 0) 0)))), (0, .ref (tw_ad G 114))]) C N dX11_unfolds_263 (i := 8) (by decide) rfl ?_
              refine tw_iload C dX11_unfolds_265 0 rfl ?_
              refine tn_if_eq C dX11_unfolds_267 (tgt := 287) (by decide) (by omega) (fun c13 => ?_) (fun c13 => ?_)
              · skip
                refine TW.c (L' := [(1, .int z), (2, .int (nI ((bs.getD 0 0)))), (4, .int (nI (uTF (bs.getD 0 0)))), (5, .int (bI (uPo (bs.getD 0 0)))), (6, .int (nI ((bs.getD (0 + 1) 0) / 128))), (7, .int (nI ((uCx bs (bs.getD (0 + 1) 0) 0)))), (0, .ref (tw_ad G 114))]) (by simp) ?_
                exact t287 ⟨hu1, hle5, (uLack_f (by first | exact Or.inl (by omega) | exact Or.inr ck1) (by first | exact Or.inl (by omega) | exact Or.inr ck2))⟩
              · exact absurd c13 (by decide)
            · skip
              refine tw_aload_n C dX11_unfolds_237 6 rfl ?_
              refine tw_getI (v := nI (uGoal (bs.getD (0 + 1) 0) / 4 % 2)) (k := 15) C dX11_unfolds_238 fc_X11 sh_114 (hM 114 (by decide) (by decide)) rfl (by decide) wd_396 rfl ?_
              refine tw_iconst C dX11_unfolds_241 (v := nI 1) (by decide) ?_
              refine tn_icmp_ne C dX11_unfolds_242 (tgt := 262) (by decide) (by omega) (by omega) (fun c14 => ?_) (fun c14 => ?_)
              · skip
                refine tw_iconst C dX11_unfolds_262 (v := nI 0) (by decide) ?_
                refine tw_istore (L' := [(8, .int (nI 0)), (1, .int z), (2, .int (nI ((bs.getD 0 0)))), (4, .int (nI (uTF (bs.getD 0 0)))), (5, .int (bI (uPo (bs.getD 0 0)))), (6, .int (nI ((bs.getD (0 + 1) 0) / 128))), (7, .int (nI ((uCx bs (bs.getD (0 + 1) 0) 0)))), (0, .ref (tw_ad G 114))]) C N dX11_unfolds_263 (i := 8) (by decide) rfl ?_
                refine tw_iload C dX11_unfolds_265 0 rfl ?_
                refine tn_if_eq C dX11_unfolds_267 (tgt := 287) (by decide) (by omega) (fun c15 => ?_) (fun c15 => ?_)
                · skip
                  refine TW.c (L' := [(1, .int z), (2, .int (nI ((bs.getD 0 0)))), (4, .int (nI (uTF (bs.getD 0 0)))), (5, .int (bI (uPo (bs.getD 0 0)))), (6, .int (nI ((bs.getD (0 + 1) 0) / 128))), (7, .int (nI ((uCx bs (bs.getD (0 + 1) 0) 0)))), (0, .ref (tw_ad G 114))]) (by simp) ?_
                  exact t287 ⟨hu1, hle5, (uLack_f (by first | exact Or.inl (by omega) | exact Or.inr ck1) (by first | exact Or.inl (by omega) | exact Or.inr ck2))⟩
                · exact absurd c15 (by decide)
              · skip
                refine tw_aload_n C dX11_unfolds_245 6 rfl ?_
                refine tw_getR (q := 115) (k := 0) C dX11_unfolds_246 fc_X11 sh_114 (hM 114 (by decide) (by decide)) rfl (by decide) wd_111 ?_
                refine tw_iload C dX11_unfolds_249 5 rfl ?_
                refine tw_bipush C dX11_unfolds_251 (v := nI 15) (by decide) ?_
                refine tw_iand C dX11_unfolds_253 (v := nI (((uCx bs (bs.getD (0 + 1) 0) 0)) % 16)) (nI_andm 4 (by decide)) ?_
                refine tw_zald (v := bI (kT K (((uCx bs (bs.getD (0 + 1) 0) 0)) % 16))) C dX11_unfolds_254 sn_115 sa_115 (hM 115 (by decide) (by decide)) (by omega) (by decide) (hI.1.1 (((uCx bs (bs.getD (0 + 1) 0) 0)) % 16) (by omega)) ?_
                refine tb_if_ne C dX11_unfolds_255 (tgt := 262) (by decide) (fun ck2 => ?_) (fun ck2 => ?_)
                · skip
                  refine tw_iconst C dX11_unfolds_262 (v := nI 0) (by decide) ?_
                  refine tw_istore (L' := [(8, .int (nI 0)), (1, .int z), (2, .int (nI ((bs.getD 0 0)))), (4, .int (nI (uTF (bs.getD 0 0)))), (5, .int (bI (uPo (bs.getD 0 0)))), (6, .int (nI ((bs.getD (0 + 1) 0) / 128))), (7, .int (nI ((uCx bs (bs.getD (0 + 1) 0) 0)))), (0, .ref (tw_ad G 114))]) C N dX11_unfolds_263 (i := 8) (by decide) rfl ?_
                  refine tw_iload C dX11_unfolds_265 0 rfl ?_
                  refine tn_if_eq C dX11_unfolds_267 (tgt := 287) (by decide) (by omega) (fun c16 => ?_) (fun c16 => ?_)
                  · skip
                    refine TW.c (L' := [(1, .int z), (2, .int (nI ((bs.getD 0 0)))), (4, .int (nI (uTF (bs.getD 0 0)))), (5, .int (bI (uPo (bs.getD 0 0)))), (6, .int (nI ((bs.getD (0 + 1) 0) / 128))), (7, .int (nI ((uCx bs (bs.getD (0 + 1) 0) 0)))), (0, .ref (tw_ad G 114))]) (by simp) ?_
                    exact t287 ⟨hu1, hle5, (uLack_f (by first | exact Or.inl (by omega) | exact Or.inr ck1) (by first | exact Or.inl (by omega) | exact Or.inr ck2))⟩
                  · exact absurd c16 (by decide)
                · skip
                  refine tw_iconst C dX11_unfolds_258 (v := nI 1) (by decide) ?_
                  refine tw_goto C dX11_unfolds_259 (tgt := 263) (by decide) ?_
                  refine tw_istore (L' := [(8, .int (nI 1)), (1, .int z), (2, .int (nI ((bs.getD 0 0)))), (4, .int (nI (uTF (bs.getD 0 0)))), (5, .int (bI (uPo (bs.getD 0 0)))), (6, .int (nI ((bs.getD (0 + 1) 0) / 128))), (7, .int (nI ((uCx bs (bs.getD (0 + 1) 0) 0)))), (0, .ref (tw_ad G 114))]) C N dX11_unfolds_263 (i := 8) (by decide) rfl ?_
                  refine tw_iload C dX11_unfolds_265 0 rfl ?_
                  refine tn_if_eq C dX11_unfolds_267 (tgt := 287) (by decide) (by omega) (fun c17 => ?_) (fun c17 => ?_)
                  · exact absurd c17 (by decide)
                  refine tw_aload_n C dX11_unfolds_270 7 rfl ?_
                  refine tw_iconst C dX11_unfolds_271 (v := nI 4) (by decide) ?_
                  refine tw_iload C dX11_unfolds_272 5 rfl ?_
                  refine tw_iconst C dX11_unfolds_274 (v := nI 1) (by decide) ?_
                  refine tn_icmp_ne C dX11_unfolds_275 (tgt := 282) (by decide) (by omega) (by omega) (fun h275 => ?_) (fun h275 => ?_)
                  · have hA : uA1 (bs.getD (0 + 1) 0) 0 = 0 + 2 := if_neg h275
                    refine tw_iconst C dX11_unfolds_282 (v := nI 1) (by decide) ?_
                    refine tw_callV (As := [.int (nI 4), .int (nI 1)]) (rest := []) C N (c_X11_fails hM (S := PU (MF S (uSrc (bs.getD (0 + 1) 0)) (uGoal (bs.getD (0 + 1) 0))) g bs.length (uA1 (bs.getD (0 + 1) 0) 0)) (w := 4) (u := 1) (by omega) (by show nI (pF bs.length (uA1 (bs.getD (0 + 1) 0) 0)) = nI 0; rw [pF, if_pos (by omega)])) mm_X11_fails wd_597 rfl (hM 114 (by decide) (by decide)) sh_114 rfl (by decide) rfl (Nat.le_of_ble_eq_true rfl) dX11_unfolds_283 ?_
                    rintro _ _ ⟨rfl, rfl⟩
                    show TW G X (tw_uI (tw_uI (PU (MF S (uSrc (bs.getD (0 + 1) 0)) (uGoal (bs.getD (0 + 1) 0))) g bs.length (uA1 (bs.getD (0 + 1) 0) 0)) 114 21 (nI 4)) 114 22 (nI 1)) [(8, .int (nI 1)), (1, .int z), (2, .int (nI ((bs.getD 0 0)))), (4, .int (nI (uTF (bs.getD 0 0)))), (5, .int (bI (uPo (bs.getD 0 0)))), (6, .int (nI ((bs.getD (0 + 1) 0) / 128))), (7, .int (nI ((uCx bs (bs.getD (0 + 1) 0) 0)))), (0, .ref (tw_ad G 114))] 286 [.int (nI 0)]
                    exact tw_ireturn C Q dX11_unfolds_286 rfl rfl rfl (uBad3 (MI_PU (MI_MF hI)) ((uFt_6 hu1 hle5 (uLack_t (by first | exact Or.inl ⟨by omega, ck1⟩ | exact Or.inr ⟨by omega, ck2⟩))).trans (by rw [hA])) (by decide))
                  · have hA : uA1 (bs.getD (0 + 1) 0) 0 = 0 + 3 := if_pos (by omega)
                    refine tw_iconst C dX11_unfolds_278 (v := nI 2) (by decide) ?_
                    refine tw_goto C dX11_unfolds_279 (tgt := 283) (by decide) ?_
                    refine tw_callV (As := [.int (nI 4), .int (nI 2)]) (rest := []) C N (c_X11_fails hM (S := PU (MF S (uSrc (bs.getD (0 + 1) 0)) (uGoal (bs.getD (0 + 1) 0))) g bs.length (uA1 (bs.getD (0 + 1) 0) 0)) (w := 4) (u := 2) (by omega) (by show nI (pF bs.length (uA1 (bs.getD (0 + 1) 0) 0)) = nI 0; rw [pF, if_pos (by omega)])) mm_X11_fails wd_597 rfl (hM 114 (by decide) (by decide)) sh_114 rfl (by decide) rfl (Nat.le_of_ble_eq_true rfl) dX11_unfolds_283 ?_
                    rintro _ _ ⟨rfl, rfl⟩
                    show TW G X (tw_uI (tw_uI (PU (MF S (uSrc (bs.getD (0 + 1) 0)) (uGoal (bs.getD (0 + 1) 0))) g bs.length (uA1 (bs.getD (0 + 1) 0) 0)) 114 21 (nI 4)) 114 22 (nI 2)) [(8, .int (nI 1)), (1, .int z), (2, .int (nI ((bs.getD 0 0)))), (4, .int (nI (uTF (bs.getD 0 0)))), (5, .int (bI (uPo (bs.getD 0 0)))), (6, .int (nI ((bs.getD (0 + 1) 0) / 128))), (7, .int (nI ((uCx bs (bs.getD (0 + 1) 0) 0)))), (0, .ref (tw_ad G 114))] 286 [.int (nI 0)]
                    exact tw_ireturn C Q dX11_unfolds_286 rfl rfl rfl (uBad3 (MI_PU (MI_MF hI)) ((uFt_6 hu1 hle5 (uLack_t (by first | exact Or.inl ⟨by omega, ck1⟩ | exact Or.inr ⟨by omega, ck2⟩))).trans (by rw [hA])) (by decide))
          · skip
            refine tw_aload_n C dX11_unfolds_218 6 rfl ?_
            refine tw_getR (q := 115) (k := 0) C dX11_unfolds_219 fc_X11 sh_114 (hM 114 (by decide) (by decide)) rfl (by decide) wd_111 ?_
            refine tw_iload C dX11_unfolds_222 5 rfl ?_
            refine tw_iconst C dX11_unfolds_224 (v := nI 4) (by decide) ?_
            refine tw_ishr C dX11_unfolds_225 (v := nI (((uCx bs (bs.getD (0 + 1) 0) 0)) / 16)) (nI_shr (by omega) 4 (by decide)) ?_
            refine tw_zald (v := bI (kT K (((uCx bs (bs.getD (0 + 1) 0) 0)) / 16))) C dX11_unfolds_226 sn_115 sa_115 (hM 115 (by decide) (by decide)) (by omega) (by decide) (hI.1.1 (((uCx bs (bs.getD (0 + 1) 0) 0)) / 16) (by omega)) ?_
            refine tb_if_eq C dX11_unfolds_227 (tgt := 258) (by decide) (fun ck1 => ?_) (fun ck1 => ?_)
            · skip
              refine tw_iconst C dX11_unfolds_258 (v := nI 1) (by decide) ?_
              refine tw_goto C dX11_unfolds_259 (tgt := 263) (by decide) ?_
              refine tw_istore (L' := [(8, .int (nI 1)), (1, .int z), (2, .int (nI ((bs.getD 0 0)))), (4, .int (nI (uTF (bs.getD 0 0)))), (5, .int (bI (uPo (bs.getD 0 0)))), (6, .int (nI ((bs.getD (0 + 1) 0) / 128))), (7, .int (nI ((uCx bs (bs.getD (0 + 1) 0) 0)))), (0, .ref (tw_ad G 114))]) C N dX11_unfolds_263 (i := 8) (by decide) rfl ?_
              refine tw_iload C dX11_unfolds_265 0 rfl ?_
              refine tn_if_eq C dX11_unfolds_267 (tgt := 287) (by decide) (by omega) (fun c20 => ?_) (fun c20 => ?_)
              · exact absurd c20 (by decide)
              refine tw_aload_n C dX11_unfolds_270 7 rfl ?_
              refine tw_iconst C dX11_unfolds_271 (v := nI 4) (by decide) ?_
              refine tw_iload C dX11_unfolds_272 5 rfl ?_
              refine tw_iconst C dX11_unfolds_274 (v := nI 1) (by decide) ?_
              refine tn_icmp_ne C dX11_unfolds_275 (tgt := 282) (by decide) (by omega) (by omega) (fun h275 => ?_) (fun h275 => ?_)
              · have hA : uA1 (bs.getD (0 + 1) 0) 0 = 0 + 2 := if_neg h275
                refine tw_iconst C dX11_unfolds_282 (v := nI 1) (by decide) ?_
                refine tw_callV (As := [.int (nI 4), .int (nI 1)]) (rest := []) C N (c_X11_fails hM (S := PU (MF S (uSrc (bs.getD (0 + 1) 0)) (uGoal (bs.getD (0 + 1) 0))) g bs.length (uA1 (bs.getD (0 + 1) 0) 0)) (w := 4) (u := 1) (by omega) (by show nI (pF bs.length (uA1 (bs.getD (0 + 1) 0) 0)) = nI 0; rw [pF, if_pos (by omega)])) mm_X11_fails wd_597 rfl (hM 114 (by decide) (by decide)) sh_114 rfl (by decide) rfl (Nat.le_of_ble_eq_true rfl) dX11_unfolds_283 ?_
                rintro _ _ ⟨rfl, rfl⟩
                show TW G X (tw_uI (tw_uI (PU (MF S (uSrc (bs.getD (0 + 1) 0)) (uGoal (bs.getD (0 + 1) 0))) g bs.length (uA1 (bs.getD (0 + 1) 0) 0)) 114 21 (nI 4)) 114 22 (nI 1)) [(8, .int (nI 1)), (1, .int z), (2, .int (nI ((bs.getD 0 0)))), (4, .int (nI (uTF (bs.getD 0 0)))), (5, .int (bI (uPo (bs.getD 0 0)))), (6, .int (nI ((bs.getD (0 + 1) 0) / 128))), (7, .int (nI ((uCx bs (bs.getD (0 + 1) 0) 0)))), (0, .ref (tw_ad G 114))] 286 [.int (nI 0)]
                exact tw_ireturn C Q dX11_unfolds_286 rfl rfl rfl (uBad3 (MI_PU (MI_MF hI)) ((uFt_6 hu1 hle5 (uLack_t (by first | exact Or.inl ⟨by omega, ck1⟩ | exact Or.inr ⟨by omega, ck2⟩))).trans (by rw [hA])) (by decide))
              · have hA : uA1 (bs.getD (0 + 1) 0) 0 = 0 + 3 := if_pos (by omega)
                refine tw_iconst C dX11_unfolds_278 (v := nI 2) (by decide) ?_
                refine tw_goto C dX11_unfolds_279 (tgt := 283) (by decide) ?_
                refine tw_callV (As := [.int (nI 4), .int (nI 2)]) (rest := []) C N (c_X11_fails hM (S := PU (MF S (uSrc (bs.getD (0 + 1) 0)) (uGoal (bs.getD (0 + 1) 0))) g bs.length (uA1 (bs.getD (0 + 1) 0) 0)) (w := 4) (u := 2) (by omega) (by show nI (pF bs.length (uA1 (bs.getD (0 + 1) 0) 0)) = nI 0; rw [pF, if_pos (by omega)])) mm_X11_fails wd_597 rfl (hM 114 (by decide) (by decide)) sh_114 rfl (by decide) rfl (Nat.le_of_ble_eq_true rfl) dX11_unfolds_283 ?_
                rintro _ _ ⟨rfl, rfl⟩
                show TW G X (tw_uI (tw_uI (PU (MF S (uSrc (bs.getD (0 + 1) 0)) (uGoal (bs.getD (0 + 1) 0))) g bs.length (uA1 (bs.getD (0 + 1) 0) 0)) 114 21 (nI 4)) 114 22 (nI 2)) [(8, .int (nI 1)), (1, .int z), (2, .int (nI ((bs.getD 0 0)))), (4, .int (nI (uTF (bs.getD 0 0)))), (5, .int (bI (uPo (bs.getD 0 0)))), (6, .int (nI ((bs.getD (0 + 1) 0) / 128))), (7, .int (nI ((uCx bs (bs.getD (0 + 1) 0) 0)))), (0, .ref (tw_ad G 114))] 286 [.int (nI 0)]
                exact tw_ireturn C Q dX11_unfolds_286 rfl rfl rfl (uBad3 (MI_PU (MI_MF hI)) ((uFt_6 hu1 hle5 (uLack_t (by first | exact Or.inl ⟨by omega, ck1⟩ | exact Or.inr ⟨by omega, ck2⟩))).trans (by rw [hA])) (by decide))
            · skip
              refine tw_aload_n C dX11_unfolds_230 6 rfl ?_
              refine tw_getI (v := nI (uGoal (bs.getD (0 + 1) 0) / 8)) (k := 14) C dX11_unfolds_231 fc_X11 sh_114 (hM 114 (by decide) (by decide)) rfl (by decide) wd_395 rfl ?_
              refine tn_if_ne C dX11_unfolds_234 (tgt := 262) (by decide) (by omega) (fun c23 => ?_) (fun c23 => ?_)
              · skip
                refine tw_iconst C dX11_unfolds_262 (v := nI 0) (by decide) ?_
                refine tw_istore (L' := [(8, .int (nI 0)), (1, .int z), (2, .int (nI ((bs.getD 0 0)))), (4, .int (nI (uTF (bs.getD 0 0)))), (5, .int (bI (uPo (bs.getD 0 0)))), (6, .int (nI ((bs.getD (0 + 1) 0) / 128))), (7, .int (nI ((uCx bs (bs.getD (0 + 1) 0) 0)))), (0, .ref (tw_ad G 114))]) C N dX11_unfolds_263 (i := 8) (by decide) rfl ?_
                refine tw_iload C dX11_unfolds_265 0 rfl ?_
                refine tn_if_eq C dX11_unfolds_267 (tgt := 287) (by decide) (by omega) (fun c24 => ?_) (fun c24 => ?_)
                · skip
                  refine TW.c (L' := [(1, .int z), (2, .int (nI ((bs.getD 0 0)))), (4, .int (nI (uTF (bs.getD 0 0)))), (5, .int (bI (uPo (bs.getD 0 0)))), (6, .int (nI ((bs.getD (0 + 1) 0) / 128))), (7, .int (nI ((uCx bs (bs.getD (0 + 1) 0) 0)))), (0, .ref (tw_ad G 114))]) (by simp) ?_
                  exact t287 ⟨hu1, hle5, (uLack_f (by first | exact Or.inl (by omega) | exact Or.inr ck1) (by first | exact Or.inl (by omega) | exact Or.inr ck2))⟩
                · exact absurd c24 (by decide)
              · skip
                refine tw_aload_n C dX11_unfolds_237 6 rfl ?_
                refine tw_getI (v := nI (uGoal (bs.getD (0 + 1) 0) / 4 % 2)) (k := 15) C dX11_unfolds_238 fc_X11 sh_114 (hM 114 (by decide) (by decide)) rfl (by decide) wd_396 rfl ?_
                refine tw_iconst C dX11_unfolds_241 (v := nI 1) (by decide) ?_
                refine tn_icmp_ne C dX11_unfolds_242 (tgt := 262) (by decide) (by omega) (by omega) (fun c25 => ?_) (fun c25 => ?_)
                · skip
                  refine tw_iconst C dX11_unfolds_262 (v := nI 0) (by decide) ?_
                  refine tw_istore (L' := [(8, .int (nI 0)), (1, .int z), (2, .int (nI ((bs.getD 0 0)))), (4, .int (nI (uTF (bs.getD 0 0)))), (5, .int (bI (uPo (bs.getD 0 0)))), (6, .int (nI ((bs.getD (0 + 1) 0) / 128))), (7, .int (nI ((uCx bs (bs.getD (0 + 1) 0) 0)))), (0, .ref (tw_ad G 114))]) C N dX11_unfolds_263 (i := 8) (by decide) rfl ?_
                  refine tw_iload C dX11_unfolds_265 0 rfl ?_
                  refine tn_if_eq C dX11_unfolds_267 (tgt := 287) (by decide) (by omega) (fun c26 => ?_) (fun c26 => ?_)
                  · skip
                    refine TW.c (L' := [(1, .int z), (2, .int (nI ((bs.getD 0 0)))), (4, .int (nI (uTF (bs.getD 0 0)))), (5, .int (bI (uPo (bs.getD 0 0)))), (6, .int (nI ((bs.getD (0 + 1) 0) / 128))), (7, .int (nI ((uCx bs (bs.getD (0 + 1) 0) 0)))), (0, .ref (tw_ad G 114))]) (by simp) ?_
                    exact t287 ⟨hu1, hle5, (uLack_f (by first | exact Or.inl (by omega) | exact Or.inr ck1) (by first | exact Or.inl (by omega) | exact Or.inr ck2))⟩
                  · exact absurd c26 (by decide)
                · skip
                  refine tw_aload_n C dX11_unfolds_245 6 rfl ?_
                  refine tw_getR (q := 115) (k := 0) C dX11_unfolds_246 fc_X11 sh_114 (hM 114 (by decide) (by decide)) rfl (by decide) wd_111 ?_
                  refine tw_iload C dX11_unfolds_249 5 rfl ?_
                  refine tw_bipush C dX11_unfolds_251 (v := nI 15) (by decide) ?_
                  refine tw_iand C dX11_unfolds_253 (v := nI (((uCx bs (bs.getD (0 + 1) 0) 0)) % 16)) (nI_andm 4 (by decide)) ?_
                  refine tw_zald (v := bI (kT K (((uCx bs (bs.getD (0 + 1) 0) 0)) % 16))) C dX11_unfolds_254 sn_115 sa_115 (hM 115 (by decide) (by decide)) (by omega) (by decide) (hI.1.1 (((uCx bs (bs.getD (0 + 1) 0) 0)) % 16) (by omega)) ?_
                  refine tb_if_ne C dX11_unfolds_255 (tgt := 262) (by decide) (fun ck2 => ?_) (fun ck2 => ?_)
                  · skip
                    refine tw_iconst C dX11_unfolds_262 (v := nI 0) (by decide) ?_
                    refine tw_istore (L' := [(8, .int (nI 0)), (1, .int z), (2, .int (nI ((bs.getD 0 0)))), (4, .int (nI (uTF (bs.getD 0 0)))), (5, .int (bI (uPo (bs.getD 0 0)))), (6, .int (nI ((bs.getD (0 + 1) 0) / 128))), (7, .int (nI ((uCx bs (bs.getD (0 + 1) 0) 0)))), (0, .ref (tw_ad G 114))]) C N dX11_unfolds_263 (i := 8) (by decide) rfl ?_
                    refine tw_iload C dX11_unfolds_265 0 rfl ?_
                    refine tn_if_eq C dX11_unfolds_267 (tgt := 287) (by decide) (by omega) (fun c27 => ?_) (fun c27 => ?_)
                    · skip
                      refine TW.c (L' := [(1, .int z), (2, .int (nI ((bs.getD 0 0)))), (4, .int (nI (uTF (bs.getD 0 0)))), (5, .int (bI (uPo (bs.getD 0 0)))), (6, .int (nI ((bs.getD (0 + 1) 0) / 128))), (7, .int (nI ((uCx bs (bs.getD (0 + 1) 0) 0)))), (0, .ref (tw_ad G 114))]) (by simp) ?_
                      exact t287 ⟨hu1, hle5, (uLack_f (by first | exact Or.inl (by omega) | exact Or.inr ck1) (by first | exact Or.inl (by omega) | exact Or.inr ck2))⟩
                    · exact absurd c27 (by decide)
                  · skip
                    refine tw_iconst C dX11_unfolds_258 (v := nI 1) (by decide) ?_
                    refine tw_goto C dX11_unfolds_259 (tgt := 263) (by decide) ?_
                    refine tw_istore (L' := [(8, .int (nI 1)), (1, .int z), (2, .int (nI ((bs.getD 0 0)))), (4, .int (nI (uTF (bs.getD 0 0)))), (5, .int (bI (uPo (bs.getD 0 0)))), (6, .int (nI ((bs.getD (0 + 1) 0) / 128))), (7, .int (nI ((uCx bs (bs.getD (0 + 1) 0) 0)))), (0, .ref (tw_ad G 114))]) C N dX11_unfolds_263 (i := 8) (by decide) rfl ?_
                    refine tw_iload C dX11_unfolds_265 0 rfl ?_
                    refine tn_if_eq C dX11_unfolds_267 (tgt := 287) (by decide) (by omega) (fun c28 => ?_) (fun c28 => ?_)
                    · exact absurd c28 (by decide)
                    refine tw_aload_n C dX11_unfolds_270 7 rfl ?_
                    refine tw_iconst C dX11_unfolds_271 (v := nI 4) (by decide) ?_
                    refine tw_iload C dX11_unfolds_272 5 rfl ?_
                    refine tw_iconst C dX11_unfolds_274 (v := nI 1) (by decide) ?_
                    refine tn_icmp_ne C dX11_unfolds_275 (tgt := 282) (by decide) (by omega) (by omega) (fun h275 => ?_) (fun h275 => ?_)
                    · have hA : uA1 (bs.getD (0 + 1) 0) 0 = 0 + 2 := if_neg h275
                      refine tw_iconst C dX11_unfolds_282 (v := nI 1) (by decide) ?_
                      refine tw_callV (As := [.int (nI 4), .int (nI 1)]) (rest := []) C N (c_X11_fails hM (S := PU (MF S (uSrc (bs.getD (0 + 1) 0)) (uGoal (bs.getD (0 + 1) 0))) g bs.length (uA1 (bs.getD (0 + 1) 0) 0)) (w := 4) (u := 1) (by omega) (by show nI (pF bs.length (uA1 (bs.getD (0 + 1) 0) 0)) = nI 0; rw [pF, if_pos (by omega)])) mm_X11_fails wd_597 rfl (hM 114 (by decide) (by decide)) sh_114 rfl (by decide) rfl (Nat.le_of_ble_eq_true rfl) dX11_unfolds_283 ?_
                      rintro _ _ ⟨rfl, rfl⟩
                      show TW G X (tw_uI (tw_uI (PU (MF S (uSrc (bs.getD (0 + 1) 0)) (uGoal (bs.getD (0 + 1) 0))) g bs.length (uA1 (bs.getD (0 + 1) 0) 0)) 114 21 (nI 4)) 114 22 (nI 1)) [(8, .int (nI 1)), (1, .int z), (2, .int (nI ((bs.getD 0 0)))), (4, .int (nI (uTF (bs.getD 0 0)))), (5, .int (bI (uPo (bs.getD 0 0)))), (6, .int (nI ((bs.getD (0 + 1) 0) / 128))), (7, .int (nI ((uCx bs (bs.getD (0 + 1) 0) 0)))), (0, .ref (tw_ad G 114))] 286 [.int (nI 0)]
                      exact tw_ireturn C Q dX11_unfolds_286 rfl rfl rfl (uBad3 (MI_PU (MI_MF hI)) ((uFt_6 hu1 hle5 (uLack_t (by first | exact Or.inl ⟨by omega, ck1⟩ | exact Or.inr ⟨by omega, ck2⟩))).trans (by rw [hA])) (by decide))
                    · have hA : uA1 (bs.getD (0 + 1) 0) 0 = 0 + 3 := if_pos (by omega)
                      refine tw_iconst C dX11_unfolds_278 (v := nI 2) (by decide) ?_
                      refine tw_goto C dX11_unfolds_279 (tgt := 283) (by decide) ?_
                      refine tw_callV (As := [.int (nI 4), .int (nI 2)]) (rest := []) C N (c_X11_fails hM (S := PU (MF S (uSrc (bs.getD (0 + 1) 0)) (uGoal (bs.getD (0 + 1) 0))) g bs.length (uA1 (bs.getD (0 + 1) 0) 0)) (w := 4) (u := 2) (by omega) (by show nI (pF bs.length (uA1 (bs.getD (0 + 1) 0) 0)) = nI 0; rw [pF, if_pos (by omega)])) mm_X11_fails wd_597 rfl (hM 114 (by decide) (by decide)) sh_114 rfl (by decide) rfl (Nat.le_of_ble_eq_true rfl) dX11_unfolds_283 ?_
                      rintro _ _ ⟨rfl, rfl⟩
                      show TW G X (tw_uI (tw_uI (PU (MF S (uSrc (bs.getD (0 + 1) 0)) (uGoal (bs.getD (0 + 1) 0))) g bs.length (uA1 (bs.getD (0 + 1) 0) 0)) 114 21 (nI 4)) 114 22 (nI 2)) [(8, .int (nI 1)), (1, .int z), (2, .int (nI ((bs.getD 0 0)))), (4, .int (nI (uTF (bs.getD 0 0)))), (5, .int (bI (uPo (bs.getD 0 0)))), (6, .int (nI ((bs.getD (0 + 1) 0) / 128))), (7, .int (nI ((uCx bs (bs.getD (0 + 1) 0) 0)))), (0, .ref (tw_ad G 114))] 286 [.int (nI 0)]
                      exact tw_ireturn C Q dX11_unfolds_286 rfl rfl rfl (uBad3 (MI_PU (MI_MF hI)) ((uFt_6 hu1 hle5 (uLack_t (by first | exact Or.inl ⟨by omega, ck1⟩ | exact Or.inr ⟨by omega, ck2⟩))).trans (by rw [hA])) (by decide))
      · have hlt5 : bs.length < (uA1 (bs.getD (0 + 1) 0) 0) := by omega
        refine tw_iconst C dX11_unfolds_201 (v := nI 0) (by decide) ?_
        exact tw_ireturn C Q dX11_unfolds_202 rfl rfl rfl (uBad1 (MI_MF hI) (uFt_5 hu1 hlt5) (by omega))
    have t178 : ∀ (_ : u1 bs 0), TW G X (PU (MF S (uSrc (bs.getD (0 + 1) 0)) (uGoal (bs.getD (0 + 1) 0))) g bs.length (0 + 1 + 1)) [(1, .int z), (2, .int (nI ((bs.getD 0 0)))), (3, .int (nI ((bs.getD (0 + 1) 0)))), (4, .int (nI (uTF (bs.getD 0 0)))), (5, .int (bI (uPo (bs.getD 0 0)))), (6, .int (nI ((bs.getD (0 + 1) 0) / 128))), (0, .ref (tw_ad G 114))] 178 [] := by
      intro hu1
      refine tw_iload C dX11_unfolds_178 5 rfl ?_
      refine tw_iconst C dX11_unfolds_180 (v := nI 1) (by decide) ?_
      refine tn_icmp_ne C dX11_unfolds_181 (tgt := 191) (by decide) (by omega) (by omega) (fun h181 => ?_) (fun h181 => ?_)
      · skip
        refine tw_iconst C dX11_unfolds_191 (v := nI 0) (by decide) ?_
        refine tw_istore (L' := [(7, .int (nI 0)), (1, .int z), (2, .int (nI ((bs.getD 0 0)))), (3, .int (nI ((bs.getD (0 + 1) 0)))), (4, .int (nI (uTF (bs.getD 0 0)))), (5, .int (bI (uPo (bs.getD 0 0)))), (6, .int (nI ((bs.getD (0 + 1) 0) / 128))), (0, .ref (tw_ad G 114))]) C N dX11_unfolds_192 (i := 7) (by decide) rfl ?_
        have hA : uA1 (bs.getD (0 + 1) 0) 0 = 0 + 2 := if_neg h181
        have hC : uCx bs (bs.getD (0 + 1) 0) 0 = 0 := if_neg h181
        refine TW.sS (S' := PU (MF S (uSrc (bs.getD (0 + 1) 0)) (uGoal (bs.getD (0 + 1) 0))) g bs.length (uA1 (bs.getD (0 + 1) 0) 0)) (by rw [hA]) ?_
        refine TW.c (L' := [(1, .int z), (2, .int (nI ((bs.getD 0 0)))), (4, .int (nI (uTF (bs.getD 0 0)))), (5, .int (bI (uPo (bs.getD 0 0)))), (6, .int (nI ((bs.getD (0 + 1) 0) / 128))), (7, .int (nI ((uCx bs (bs.getD (0 + 1) 0) 0)))), (0, .ref (tw_ad G 114))]) (by rw [hC]; simp) ?_
        exact t194 hu1
      · skip
        refine tw_aload_n C dX11_unfolds_184 6 rfl ?_
        refine tw_callV (As := []) (rest := []) C N (c_X11_next hM (B := (MF S (uSrc (bs.getD (0 + 1) 0)) (uGoal (bs.getD (0 + 1) 0)))) (f := g) (bs := bs) (v := (0 + 1 + 1)) hB h19 hbl) mm_X11_next wd_593 rfl (hM 114 (by decide) (by decide)) sh_114 rfl (by decide) rfl (Nat.le_of_ble_eq_true rfl) dX11_unfolds_185 ?_
        rintro _ _ ⟨rfl, rfl⟩
        show TW G X (PU (MF S (uSrc (bs.getD (0 + 1) 0)) (uGoal (bs.getD (0 + 1) 0))) g bs.length ((0 + 1 + 1) + 1)) [(1, .int z), (2, .int (nI ((bs.getD 0 0)))), (3, .int (nI ((bs.getD (0 + 1) 0)))), (4, .int (nI (uTF (bs.getD 0 0)))), (5, .int (bI (uPo (bs.getD 0 0)))), (6, .int (nI ((bs.getD (0 + 1) 0) / 128))), (0, .ref (tw_ad G 114))] 188 [.int (nI (bs.getD (0 + 1 + 1) 0))]
        refine tw_goto C dX11_unfolds_188 (tgt := 192) (by decide) ?_
        refine tw_istore (L' := [(7, .int (nI (bs.getD (0 + 1 + 1) 0))), (1, .int z), (2, .int (nI ((bs.getD 0 0)))), (3, .int (nI ((bs.getD (0 + 1) 0)))), (4, .int (nI (uTF (bs.getD 0 0)))), (5, .int (bI (uPo (bs.getD 0 0)))), (6, .int (nI ((bs.getD (0 + 1) 0) / 128))), (0, .ref (tw_ad G 114))]) C N dX11_unfolds_192 (i := 7) (by decide) rfl ?_
        have hA : uA1 (bs.getD (0 + 1) 0) 0 = 0 + 3 := if_pos h181
        have hC : uCx bs (bs.getD (0 + 1) 0) 0 = bs.getD (0 + 1 + 1) 0 := if_pos h181
        refine TW.sS (S' := PU (MF S (uSrc (bs.getD (0 + 1) 0)) (uGoal (bs.getD (0 + 1) 0))) g bs.length (uA1 (bs.getD (0 + 1) 0) 0)) (by rw [hA]) ?_
        refine TW.c (L' := [(1, .int z), (2, .int (nI ((bs.getD 0 0)))), (4, .int (nI (uTF (bs.getD 0 0)))), (5, .int (bI (uPo (bs.getD 0 0)))), (6, .int (nI ((bs.getD (0 + 1) 0) / 128))), (7, .int (nI ((uCx bs (bs.getD (0 + 1) 0) 0)))), (0, .ref (tw_ad G 114))]) (by rw [hC]; simp) ?_
        exact t194 hu1
    have t96 : ∀ (_ : 0 + 1 + 1 ≤ bs.length) (_ : (bs.getD 0 0) / 32 = 3), TW G X (PU S g bs.length (0 + 1 + 1)) [(5, .int (bI (uPo (bs.getD 0 0)))), (4, .int (nI ((bs.getD 0 0) / 8 % 4))), (1, .int z), (2, .int (nI ((bs.getD 0 0)))), (3, .int (nI ((bs.getD (0 + 1) 0)))), (0, .ref (tw_ad G 114))] 98 [] := by
      intro hle2 h32
      refine tw_iload_n C dX11_unfolds_98 4 rfl ?_
      refine tw_bipush C dX11_unfolds_99 (v := nI 7) (by decide) ?_
      refine tw_ishr C dX11_unfolds_101 (v := nI (((bs.getD (0 + 1) 0)) / 128)) (nI_shr (by omega) 7 (by decide)) ?_
      refine tw_istore (L' := [(6, .int (nI (((bs.getD (0 + 1) 0)) / 128))), (5, .int (bI (uPo (bs.getD 0 0)))), (4, .int (nI ((bs.getD 0 0) / 8 % 4))), (1, .int z), (2, .int (nI ((bs.getD 0 0)))), (3, .int (nI ((bs.getD (0 + 1) 0)))), (0, .ref (tw_ad G 114))]) C N dX11_unfolds_102 (i := 6) (by decide) rfl ?_
      refine tw_aload_n C dX11_unfolds_104 6 rfl ?_
      refine tw_iload_n C dX11_unfolds_105 5 rfl ?_
      refine tw_bipush C dX11_unfolds_106 (v := nI 6) (by decide) ?_
      refine tw_ishr C dX11_unfolds_108 (v := nI (((bs.getD (0 + 1) 0)) / 64)) (nI_shr (by omega) 6 (by decide)) ?_
      refine tw_iconst C dX11_unfolds_109 (v := nI 1) (by decide) ?_
      refine tw_iand C dX11_unfolds_110 (v := nI ((((bs.getD (0 + 1) 0)) / 64) % 2)) (nI_andm 1 (by decide)) ?_
      refine tw_putI (k := 11) C dX11_unfolds_111 fc_X11 sh_114 (hM 114 (by decide) (by decide)) rfl (by decide) rfl wd_393 rfl rfl ?_
      refine TW.sS (S' := PU (tw_uI S 114 11 (nI ((((bs.getD (0 + 1) 0)) / 64) % 2))) g bs.length (0 + 1 + 1)) (PU_uI (by decide)) ?_
      refine tw_aload_n C dX11_unfolds_114 6 rfl ?_
      refine tw_iload_n C dX11_unfolds_115 5 rfl ?_
      refine tw_iconst C dX11_unfolds_116 (v := nI 4) (by decide) ?_
      refine tw_ishr C dX11_unfolds_117 (v := nI (((bs.getD (0 + 1) 0)) / 16)) (nI_shr (by omega) 4 (by decide)) ?_
      refine tw_iconst C dX11_unfolds_118 (v := nI 3) (by decide) ?_
      refine tw_iand C dX11_unfolds_119 (v := nI ((((bs.getD (0 + 1) 0)) / 16) % 4)) (nI_andm 2 (by decide)) ?_
      refine tw_putI (k := 12) C dX11_unfolds_120 fc_X11 sh_114 (hM 114 (by decide) (by decide)) rfl (by decide) rfl wd_394 rfl rfl ?_
      refine TW.sS (S' := PU (tw_uI (tw_uI S 114 11 (nI ((((bs.getD (0 + 1) 0)) / 64) % 2))) 114 12 (nI ((((bs.getD (0 + 1) 0)) / 16) % 4))) g bs.length (0 + 1 + 1)) (PU_uI (by decide)) ?_
      refine tw_aload_n C dX11_unfolds_123 6 rfl ?_
      refine tw_iload_n C dX11_unfolds_124 5 rfl ?_
      refine tw_iconst C dX11_unfolds_125 (v := nI 3) (by decide) ?_
      refine tw_ishr C dX11_unfolds_126 (v := nI (((bs.getD (0 + 1) 0)) / 8)) (nI_shr (by omega) 3 (by decide)) ?_
      refine tw_iconst C dX11_unfolds_127 (v := nI 1) (by decide) ?_
      refine tw_iand C dX11_unfolds_128 (v := nI ((((bs.getD (0 + 1) 0)) / 8) % 2)) (nI_andm 1 (by decide)) ?_
      refine tw_putI (k := 14) C dX11_unfolds_129 fc_X11 sh_114 (hM 114 (by decide) (by decide)) rfl (by decide) rfl wd_395 rfl rfl ?_
      refine TW.sS (S' := PU (tw_uI (tw_uI (tw_uI S 114 11 (nI ((((bs.getD (0 + 1) 0)) / 64) % 2))) 114 12 (nI ((((bs.getD (0 + 1) 0)) / 16) % 4))) 114 14 (nI ((((bs.getD (0 + 1) 0)) / 8) % 2))) g bs.length (0 + 1 + 1)) (PU_uI (by decide)) ?_
      refine tw_aload_n C dX11_unfolds_132 6 rfl ?_
      refine tw_iload_n C dX11_unfolds_133 5 rfl ?_
      refine tw_iconst C dX11_unfolds_134 (v := nI 2) (by decide) ?_
      refine tw_ishr C dX11_unfolds_135 (v := nI (((bs.getD (0 + 1) 0)) / 4)) (nI_shr (by omega) 2 (by decide)) ?_
      refine tw_iconst C dX11_unfolds_136 (v := nI 1) (by decide) ?_
      refine tw_iand C dX11_unfolds_137 (v := nI ((((bs.getD (0 + 1) 0)) / 4) % 2)) (nI_andm 1 (by decide)) ?_
      refine tw_putI (k := 15) C dX11_unfolds_138 fc_X11 sh_114 (hM 114 (by decide) (by decide)) rfl (by decide) rfl wd_396 rfl rfl ?_
      refine TW.sS (S' := PU (tw_uI (tw_uI (tw_uI (tw_uI S 114 11 (nI ((((bs.getD (0 + 1) 0)) / 64) % 2))) 114 12 (nI ((((bs.getD (0 + 1) 0)) / 16) % 4))) 114 14 (nI ((((bs.getD (0 + 1) 0)) / 8) % 2))) 114 15 (nI ((((bs.getD (0 + 1) 0)) / 4) % 2))) g bs.length (0 + 1 + 1)) (PU_uI (by decide)) ?_
      refine tw_aload_n C dX11_unfolds_141 6 rfl ?_
      refine tw_iload_n C dX11_unfolds_142 5 rfl ?_
      refine tw_iconst C dX11_unfolds_143 (v := nI 3) (by decide) ?_
      refine tw_iand C dX11_unfolds_144 (v := nI (((bs.getD (0 + 1) 0)) % 4)) (nI_andm 2 (by decide)) ?_
      refine tw_putI (k := 16) C dX11_unfolds_145 fc_X11 sh_114 (hM 114 (by decide) (by decide)) rfl (by decide) rfl wd_397 rfl rfl ?_
      refine TW.sS (S' := PU (tw_uI (tw_uI (tw_uI (tw_uI (tw_uI S 114 11 (nI ((((bs.getD (0 + 1) 0)) / 64) % 2))) 114 12 (nI ((((bs.getD (0 + 1) 0)) / 16) % 4))) 114 14 (nI ((((bs.getD (0 + 1) 0)) / 8) % 2))) 114 15 (nI ((((bs.getD (0 + 1) 0)) / 4) % 2))) 114 16 (nI (((bs.getD (0 + 1) 0)) % 4))) g bs.length (0 + 1 + 1)) (PU_uI (by decide)) ?_
      refine TW.sS (S' := PU (MF S (uSrc (bs.getD (0 + 1) 0)) (uGoal (bs.getD (0 + 1) 0))) g bs.length (0 + 1 + 1)) (by rw [show (bs.getD (0 + 1) 0) / 64 % 2 = uSrc (bs.getD (0 + 1) 0) / 4 by omega, show (bs.getD (0 + 1) 0) / 16 % 4 = uSrc (bs.getD (0 + 1) 0) % 4 by omega, show (bs.getD (0 + 1) 0) / 8 % 2 = uGoal (bs.getD (0 + 1) 0) / 8 by omega, show (bs.getD (0 + 1) 0) / 4 % 2 = uGoal (bs.getD (0 + 1) 0) / 4 % 2 by omega, show (bs.getD (0 + 1) 0) % 4 = uGoal (bs.getD (0 + 1) 0) % 4 by omega]; rfl) ?_
      refine tw_aload_n C dX11_unfolds_148 6 rfl ?_
      refine tw_getI (v := nI (uGoal (bs.getD (0 + 1) 0) / 4 % 2)) (k := 15) C dX11_unfolds_149 fc_X11 sh_114 (hM 114 (by decide) (by decide)) rfl (by decide) wd_396 rfl ?_
      refine tw_iconst C dX11_unfolds_152 (v := nI 1) (by decide) ?_
      refine tn_icmp_ne C dX11_unfolds_153 (tgt := 178) (by decide) (by omega) (by omega) (fun c1 => ?_) (fun c1 => ?_)
      · skip
        refine TW.c (L' := [(1, .int z), (2, .int (nI ((bs.getD 0 0)))), (3, .int (nI ((bs.getD (0 + 1) 0)))), (4, .int (nI (uTF (bs.getD 0 0)))), (5, .int (bI (uPo (bs.getD 0 0)))), (6, .int (nI ((bs.getD (0 + 1) 0) / 128))), (0, .ref (tw_ad G 114))]) (by show ∀ q ∈ _, q ∈ _; simp [uTF]) ?_
        exact t178 ⟨hle2, h32, by omega⟩
      · skip
        refine tw_aload_n C dX11_unfolds_156 6 rfl ?_
        refine tw_getI (v := nI (uGoal (bs.getD (0 + 1) 0) / 8)) (k := 14) C dX11_unfolds_157 fc_X11 sh_114 (hM 114 (by decide) (by decide)) rfl (by decide) wd_395 rfl ?_
        refine tw_iconst C dX11_unfolds_160 (v := nI 1) (by decide) ?_
        refine tn_icmp_eq C dX11_unfolds_161 (tgt := 171) (by decide) (by omega) (by omega) (fun c2 => ?_) (fun c2 => ?_)
        · skip
          refine tw_aload_n C dX11_unfolds_171 6 rfl ?_
          refine tw_iconst C dX11_unfolds_172 (v := nI 3) (by decide) ?_
          refine tw_iconst C dX11_unfolds_173 (v := nI 1) (by decide) ?_
          refine tw_callV (As := [.int (nI 3), .int (nI 1)]) (rest := []) C N (c_X11_fails hM (S := PU (MF S (uSrc (bs.getD (0 + 1) 0)) (uGoal (bs.getD (0 + 1) 0))) g bs.length (0 + 1 + 1)) (w := 3) (u := 1) (by omega) (by show nI (pF bs.length (0 + 1 + 1)) = nI 0; rw [pF, if_pos (by omega)])) mm_X11_fails wd_597 rfl (hM 114 (by decide) (by decide)) sh_114 rfl (by decide) rfl (Nat.le_of_ble_eq_true rfl) dX11_unfolds_174 ?_
          rintro _ _ ⟨rfl, rfl⟩
          show TW G X (tw_uI (tw_uI (PU (MF S (uSrc (bs.getD (0 + 1) 0)) (uGoal (bs.getD (0 + 1) 0))) g bs.length (0 + 1 + 1)) 114 21 (nI 3)) 114 22 (nI 1)) [(6, .int (nI (((bs.getD (0 + 1) 0)) / 128))), (5, .int (bI (uPo (bs.getD 0 0)))), (4, .int (nI ((bs.getD 0 0) / 8 % 4))), (1, .int z), (2, .int (nI ((bs.getD 0 0)))), (3, .int (nI ((bs.getD (0 + 1) 0)))), (0, .ref (tw_ad G 114))] 177 [.int (nI 0)]
          exact tw_ireturn C Q dX11_unfolds_177 rfl rfl rfl (uBad3 (MI_PU (MI_MF hI)) (uFt_4 hle2 h32 (by omega)) (by decide))
        · skip
          refine tw_aload_n C dX11_unfolds_164 6 rfl ?_
          refine tw_getI (v := nI (uGoal (bs.getD (0 + 1) 0) % 4)) (k := 16) C dX11_unfolds_165 fc_X11 sh_114 (hM 114 (by decide) (by decide)) rfl (by decide) wd_397 rfl ?_
          refine tn_if_ne C dX11_unfolds_168 (tgt := 178) (by decide) (by omega) (fun c4 => ?_) (fun c4 => ?_)
          · skip
            refine TW.c (L' := [(1, .int z), (2, .int (nI ((bs.getD 0 0)))), (3, .int (nI ((bs.getD (0 + 1) 0)))), (4, .int (nI (uTF (bs.getD 0 0)))), (5, .int (bI (uPo (bs.getD 0 0)))), (6, .int (nI ((bs.getD (0 + 1) 0) / 128))), (0, .ref (tw_ad G 114))]) (by show ∀ q ∈ _, q ∈ _; simp [uTF]) ?_
            exact t178 ⟨hle2, h32, by omega⟩
          · skip
            refine tw_aload_n C dX11_unfolds_171 6 rfl ?_
            refine tw_iconst C dX11_unfolds_172 (v := nI 3) (by decide) ?_
            refine tw_iconst C dX11_unfolds_173 (v := nI 1) (by decide) ?_
            refine tw_callV (As := [.int (nI 3), .int (nI 1)]) (rest := []) C N (c_X11_fails hM (S := PU (MF S (uSrc (bs.getD (0 + 1) 0)) (uGoal (bs.getD (0 + 1) 0))) g bs.length (0 + 1 + 1)) (w := 3) (u := 1) (by omega) (by show nI (pF bs.length (0 + 1 + 1)) = nI 0; rw [pF, if_pos (by omega)])) mm_X11_fails wd_597 rfl (hM 114 (by decide) (by decide)) sh_114 rfl (by decide) rfl (Nat.le_of_ble_eq_true rfl) dX11_unfolds_174 ?_
            rintro _ _ ⟨rfl, rfl⟩
            show TW G X (tw_uI (tw_uI (PU (MF S (uSrc (bs.getD (0 + 1) 0)) (uGoal (bs.getD (0 + 1) 0))) g bs.length (0 + 1 + 1)) 114 21 (nI 3)) 114 22 (nI 1)) [(6, .int (nI (((bs.getD (0 + 1) 0)) / 128))), (5, .int (bI (uPo (bs.getD 0 0)))), (4, .int (nI ((bs.getD 0 0) / 8 % 4))), (1, .int z), (2, .int (nI ((bs.getD 0 0)))), (3, .int (nI ((bs.getD (0 + 1) 0)))), (0, .ref (tw_ad G 114))] 177 [.int (nI 0)]
            exact tw_ireturn C Q dX11_unfolds_177 rfl rfl rfl (uBad3 (MI_PU (MI_MF hI)) (uFt_4 hle2 h32 (by omega)) (by decide))
    refine tw_aload_n C dX11_unfolds_36 1 rfl ?_
    refine tw_callV (As := []) (rest := []) C N (c_X11_next hM (B := S) (f := g) (bs := bs) (v := 0) hB h19 hbl) mm_X11_next wd_593 rfl (hM 114 (by decide) (by decide)) sh_114 rfl (by decide) rfl (Nat.le_of_ble_eq_true rfl) dX11_unfolds_37 ?_
    rintro _ _ ⟨rfl, rfl⟩
    show TW G X (PU S g bs.length (0 + 1)) [(1, .int z), (0, .ref (tw_ad G 114))] 40 [.int (nI (bs.getD 0 0))]
    refine tw_istore_n (L' := [(2, .int (nI (bs.getD 0 0))), (1, .int z), (0, .ref (tw_ad G 114))]) C N dX11_unfolds_40 rfl (by decide) rfl ?_
    refine tw_aload_n C dX11_unfolds_41 2 rfl ?_
    have hpf1 := pF_io bs.length (0 + 1)
    refine tw_getI (v := nI (pF bs.length (0 + 1))) (k := 21) C dX11_unfolds_42 fc_X11 sh_114 (hM 114 (by decide) (by decide)) rfl (by decide) wd_584 rfl ?_
    refine tn_if_le C dX11_unfolds_45 (tgt := 50) (by decide) (by omega) (fun c2 => ?_) (fun c2 => ?_)
    · have hle1 : (0 + 1) ≤ bs.length := by omega
      refine tw_iload_n C dX11_unfolds_50 0 rfl ?_
      refine tw_iconst C dX11_unfolds_51 (v := nI 5) (by decide) ?_
      refine tw_ishr C dX11_unfolds_52 (v := nI ((bs.getD 0 0) / 32)) (nI_shr (by omega) 5 (by decide)) ?_
      refine tw_iconst C dX11_unfolds_53 (v := nI 3) (by decide) ?_
      refine tn_icmp_eq C dX11_unfolds_54 (tgt := 64) (by decide) (by omega) (by omega) (fun h54 => ?_) (fun h54 => ?_)
      · skip
        refine tw_aload_n C dX11_unfolds_64 2 rfl ?_
        refine tw_callV (As := []) (rest := []) C N (c_X11_next hM (B := S) (f := g) (bs := bs) (v := (0 + 1)) hB h19 hbl) mm_X11_next wd_593 rfl (hM 114 (by decide) (by decide)) sh_114 rfl (by decide) rfl (Nat.le_of_ble_eq_true rfl) dX11_unfolds_65 ?_
        rintro _ _ ⟨rfl, rfl⟩
        show TW G X (PU S g bs.length ((0 + 1) + 1)) [(2, .int (nI (bs.getD 0 0))), (1, .int z), (0, .ref (tw_ad G 114))] 68 [.int (nI (bs.getD (0 + 1) 0))]
        refine tw_istore_n (L' := [(3, .int (nI (bs.getD (0 + 1) 0))), (2, .int (nI (bs.getD 0 0))), (1, .int z), (0, .ref (tw_ad G 114))]) C N dX11_unfolds_68 rfl (by decide) rfl ?_
        refine tw_aload_n C dX11_unfolds_69 3 rfl ?_
        have hpf2 := pF_io bs.length ((0 + 1) + 1)
        refine tw_getI (v := nI (pF bs.length ((0 + 1) + 1))) (k := 21) C dX11_unfolds_70 fc_X11 sh_114 (hM 114 (by decide) (by decide)) rfl (by decide) wd_584 rfl ?_
        refine tn_if_le C dX11_unfolds_73 (tgt := 78) (by decide) (by omega) (fun c4 => ?_) (fun c4 => ?_)
        · have hle2 : ((0 + 1) + 1) ≤ bs.length := by omega
          refine tw_iload_n C dX11_unfolds_78 1 rfl ?_
          refine tw_iconst C dX11_unfolds_79 (v := nI 3) (by decide) ?_
          refine tw_ishr C dX11_unfolds_80 (v := nI ((bs.getD 0 0) / 8)) (nI_shr (by omega) 3 (by decide)) ?_
          refine tw_iconst C dX11_unfolds_81 (v := nI 3) (by decide) ?_
          refine tw_iand C dX11_unfolds_82 (v := nI (((bs.getD 0 0) / 8) % 4)) (nI_andm 2 (by decide)) ?_
          refine tw_istore (L' := [(4, .int (nI (((bs.getD 0 0) / 8) % 4))), (3, .int (nI (bs.getD (0 + 1) 0))), (2, .int (nI (bs.getD 0 0))), (1, .int z), (0, .ref (tw_ad G 114))]) C N dX11_unfolds_83 (i := 4) (by decide) rfl ?_
          refine tw_iload_n C dX11_unfolds_85 2 rfl ?_
          refine tw_iconst C dX11_unfolds_86 (v := nI 4) (by decide) ?_
          refine tw_iand C dX11_unfolds_87 (v := nI ((bs.getD 0 0) &&& 4)) (nI_and _ _) ?_
          refine tn_if_eq C dX11_unfolds_88 (tgt := 95) (by decide) (Nat.lt_of_le_of_lt Nat.and_le_left (Nat.lt_trans hb0 (by decide))) (fun h88 => ?_) (fun h88 => ?_)
          · skip
            refine tw_iconst C dX11_unfolds_95 (v := nI 0) (by decide) ?_
            refine tw_istore (L' := [(5, .int (nI 0)), (4, .int (nI (((bs.getD 0 0) / 8) % 4))), (3, .int (nI (bs.getD (0 + 1) 0))), (2, .int (nI (bs.getD 0 0))), (1, .int z), (0, .ref (tw_ad G 114))]) C N dX11_unfolds_96 (i := 5) (by decide) rfl ?_
            have e5 : nI 0 = bI (uPo (bs.getD 0 0)) := bI_of_f (by have := (and4m (bs.getD 0 0) hb0).mp (by omega); omega)
            refine TW.c (L' := [(5, .int (bI (uPo (bs.getD 0 0)))), (4, .int (nI ((bs.getD 0 0) / 8 % 4))), (1, .int z), (2, .int (nI ((bs.getD 0 0)))), (3, .int (nI ((bs.getD (0 + 1) 0)))), (0, .ref (tw_ad G 114))]) (by rw [← e5]; simp) ?_
            exact t96 hle2 (by omega)
          · skip
            refine tw_iconst C dX11_unfolds_91 (v := nI 1) (by decide) ?_
            refine tw_goto C dX11_unfolds_92 (tgt := 96) (by decide) ?_
            refine tw_istore (L' := [(5, .int (nI 1)), (4, .int (nI (((bs.getD 0 0) / 8) % 4))), (3, .int (nI (bs.getD (0 + 1) 0))), (2, .int (nI (bs.getD 0 0))), (1, .int z), (0, .ref (tw_ad G 114))]) C N dX11_unfolds_96 (i := 5) (by decide) rfl ?_
            have e5 : nI 1 = bI (uPo (bs.getD 0 0)) := bI_of_t (by have := (and4m (bs.getD 0 0) hb0).mpr; omega)
            refine TW.c (L' := [(5, .int (bI (uPo (bs.getD 0 0)))), (4, .int (nI ((bs.getD 0 0) / 8 % 4))), (1, .int z), (2, .int (nI ((bs.getD 0 0)))), (3, .int (nI ((bs.getD (0 + 1) 0)))), (0, .ref (tw_ad G 114))]) (by rw [← e5]; simp) ?_
            exact t96 hle2 (by omega)
        · have hlt2 : bs.length < ((0 + 1) + 1) := by omega
          refine tw_iconst C dX11_unfolds_76 (v := nI 0) (by decide) ?_
          exact tw_ireturn C Q dX11_unfolds_77 rfl rfl rfl (uBad1 hI (uFt_3 hle1 (by omega) hlt2) (by omega))
      · skip
        refine tw_aload_n C dX11_unfolds_57 2 rfl ?_
        refine tw_iconst C dX11_unfolds_58 (v := nI 2) (by decide) ?_
        refine tw_iconst C dX11_unfolds_59 (v := nI 0) (by decide) ?_
        refine tw_callV (As := [.int (nI 2), .int (nI 0)]) (rest := []) C N (c_X11_fails hM (S := PU S g bs.length (0 + 1)) (w := 2) (u := 0) (by omega) (by show nI (pF bs.length (0 + 1)) = nI 0; rw [pF, if_pos (by omega)])) mm_X11_fails wd_597 rfl (hM 114 (by decide) (by decide)) sh_114 rfl (by decide) rfl (Nat.le_of_ble_eq_true rfl) dX11_unfolds_60 ?_
        rintro _ _ ⟨rfl, rfl⟩
        show TW G X (tw_uI (tw_uI (PU S g bs.length (0 + 1)) 114 21 (nI 2)) 114 22 (nI 0)) [(2, .int (nI (bs.getD 0 0))), (1, .int z), (0, .ref (tw_ad G 114))] 63 [.int (nI 0)]
        exact tw_ireturn C Q dX11_unfolds_63 rfl rfl rfl (uBad3 (MI_PU hI) (uFt_2 hle1 (by omega)) (by decide))
    · have hlt1 : bs.length < (0 + 1) := by omega
      refine tw_iconst C dX11_unfolds_48 (v := nI 0) (by decide) ?_
      exact tw_ireturn C Q dX11_unfolds_49 rfl rfl rfl (uBad1 hI (uFt_1 hlt1) (by omega))
  have loop : ∀ (d : Nat) (k : Nat) (g : Nat → Int32) (_ : k + d = 48) (hz0 : ∀ q, q < k → g q = nI 0), TW G X (PU S g bs.length 0) [(2, .int (nI k)), (1, .int z), (0, .ref (tw_ad G 114))] 17 [] := by
    intro d
    induction d with
    | zero =>
      intro k g hk hz0
      refine tw_iload_n C dX11_unfolds_17 0 rfl ?_
      refine tw_bipush C dX11_unfolds_18 (v := nI 48) (by decide) ?_
      refine tn_icmp_ge C dX11_unfolds_20 (tgt := 36) (by decide) (by omega) (by omega) (fun c1 => ?_) (fun c1 => ?_)
      · skip
        refine TW.c (L' := [(1, .int z), (0, .ref (tw_ad G 114))]) (by simp) ?_
        exact t36 g (fun q hq => hz0 q (by omega))
      · exact absurd c1 (by omega)
    | succ d ih =>
      intro k g hk hz0
      refine tw_iload_n C dX11_unfolds_17 0 rfl ?_
      refine tw_bipush C dX11_unfolds_18 (v := nI 48) (by decide) ?_
      refine tn_icmp_ge C dX11_unfolds_20 (tgt := 36) (by decide) (by omega) (by omega) (fun c1 => ?_) (fun c1 => ?_)
      · exact absurd c1 (by omega)
      refine tw_aload_n C dX11_unfolds_23 2 rfl ?_
      refine tw_getR (q := 122) (k := 23) C dX11_unfolds_24 fc_X11 sh_114 (hM 114 (by decide) (by decide)) rfl (by decide) wd_118 ?_
      refine tw_iload_n C dX11_unfolds_27 0 rfl ?_
      refine tw_iconst C dX11_unfolds_28 (v := nI 0) (by decide) ?_
      refine tw_iast C dX11_unfolds_29 sn_122 sa_122 (hM 122 (by decide) (by decide)) (by omega) (by decide) ?_
      refine TW.sS (S' := PU S (upd g k (nI 0)) bs.length 0) PU_f ?_
      refine tw_iinc (k := 0) (v := nI (k + 1)) (L' := [(2, .int (nI (k + 1))), (1, .int z), (0, .ref (tw_ad G 114))]) C N dX11_unfolds_30 rfl (tn_inc1 _) (by decide) rfl ?_
      refine tw_goto C dX11_unfolds_33 (tgt := 17) (by decide) ?_
      refine TW.c (L' := [(2, .int (nI (k + 1))), (1, .int z), (0, .ref (tw_ad G 114))]) (by simp) ?_
      exact ih (k + 1) _ (by omega) (fun q hq => by
        by_cases hx : q = k
        · rw [hx]; simp [upd]
        · simp only [upd, hx, if_false]; exact hz0 q (by omega))
  refine tw_aload_n C dX11_unfolds_0 0 rfl ?_
  refine tw_iconst C dX11_unfolds_1 (v := nI 0) (by decide) ?_
  refine tw_putI (k := 20) C dX11_unfolds_2 fc_X11 sh_114 (hM 114 (by decide) (by decide)) rfl (by decide) rfl wd_592 rfl rfl ?_
  refine tw_aload_n C dX11_unfolds_5 0 rfl ?_
  refine tw_iconst C dX11_unfolds_6 (v := nI 0) (by decide) ?_
  refine tw_putI (k := 21) C dX11_unfolds_7 fc_X11 sh_114 (hM 114 (by decide) (by decide)) rfl (by decide) rfl wd_584 rfl rfl ?_
  refine tw_aload_n C dX11_unfolds_10 0 rfl ?_
  refine tw_iconst C dX11_unfolds_11 (v := nI 0) (by decide) ?_
  refine tw_putI (k := 22) C dX11_unfolds_12 fc_X11 sh_114 (hM 114 (by decide) (by decide)) rfl (by decide) rfl wd_586 rfl rfl ?_
  refine TW.sS (S' := PU S (tw_A S 122) bs.length 0) PU_new ?_
  refine tw_iconst C dX11_unfolds_15 (v := nI 0) (by decide) ?_
  refine tw_istore_n (L' := [(2, .int (nI 0)), (0, .ref (tw_ad G 114)), (1, .int z)]) C N dX11_unfolds_16 rfl (by decide) rfl ?_
  refine TW.c (L' := [(2, .int (nI 0)), (1, .int z), (0, .ref (tw_ad G 114))]) (by simp) ?_
  exact loop 48 0 _ rfl (fun q hq => absurd hq (by omega))
