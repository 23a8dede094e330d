/-! what frames a packet is cut to, and what the receiver makes of each -/
theorem AT_rf (f : List Nat) : AT f 0 f := ⟨by omega, fun i _ => by rw [Nat.zero_add]⟩
theorem AT_nb2 {bs : List Nat} {a v : Nat} (h : AT bs a (be v 2)) (hv : v < 2 ^ 16) : nb bs a 2 = v := by
  have e0 := h.2 0 (by rw [be_len]; decide)
  have e1 := h.2 1 (by rw [be_len]; decide)
  rw [be_gD (by decide)] at e0 e1
  simp only [nb, e0, e1]
  show (0 * 256 + v / 2 ^ 8 % 256) * 256 + v / 2 ^ 0 % 256 = v
  omega
theorem AT_be0 {bs : List Nat} {a v : Nat} (h : AT bs a (be v 2)) : bs.getD a 0 = v / 256 % 256 := by
  have e0 := h.2 0 (by rw [be_len]; decide)
  rw [be_gD (by decide), Nat.add_zero] at e0
  exact e0
/-- the frame f is a part of the packet of z bytes with tag 7: the bytes of Y from s on, at q -/
def PF (K : kN) (z : Nat) (f : List Nat) (q : Nat) (Y : List Nat) (s : Nat) : Prop := (∀ c, listenP K f 0 c = partL 0 c z 7 q Y s) ∧ okP z q (Y.length - s) ∧ q % 8 = 0 ∧ 1 ≤ Y.length - s
/-- frames that lay a packet of z bytes without a gap, from p on -/
def TL (K : kN) (z : Nat) : Nat → List (List Nat) → Prop
  | p, [] => p = z
  | p, f :: fs => ∃ Y s, PF K z f p Y s ∧ TL K z (p + (Y.length - s)) fs
theorem PF_more {K : kN} {xs : List Nat} {z p n : Nat} (hz1 : 40 ≤ z) (hz2 : z ≤ 600) (hp : p % 8 = 0) (hn : 1 ≤ n) (hpn : p + n ≤ z) (h8 : (p + n) % 8 = 0 ∨ p + n = z) : PF K z (be (57344 + z) 2 ++ be 7 2 ++ [p / 8 % 256] ++ cutD xs p n) p (be (57344 + z) 2 ++ be 7 2 ++ [p / 8 % 256] ++ cutD xs p n) 5 := by
  have hl : (be (57344 + z) 2 ++ be 7 2 ++ [p / 8 % 256] ++ cutD xs p n).length = 5 + n := by simp [be_len, cutD_len]; omega
  have h0 := AT_rf (be (57344 + z) 2 ++ be 7 2 ++ [p / 8 % 256] ++ cutD xs p n)
  generalize hf : (be (57344 + z) 2 ++ be 7 2 ++ [p / 8 % 256] ++ cutD xs p n) = f at hl ⊢
  rw [hf] at h0
  rw [← hf] at h0
  have h0 : AT f 0 (be (57344 + z) 2 ++ be 7 2 ++ [p / 8 % 256] ++ cutD xs p n) := by rw [hf] at h0 ⊢; exact h0
  obtain ⟨h1, -⟩ := AT_ap h0
  obtain ⟨h2, h3⟩ := AT_ap h1
  obtain ⟨h4, h5⟩ := AT_ap h2
  rw [List.length_append, be_len, be_len] at h3
  rw [be_len] at h5
  have e0 := AT_be0 h4
  have e1 := AT_nb2 h4 (by omega)
  have e2 := AT_nb2 h5 (by decide)
  have e3 := (AT_1 h3).1
  have hok : okP z p (f.length - 5) := by
    rw [hl, Nat.add_sub_cancel_left]
    exact ⟨hz1, hz2, hpn, h8⟩
  refine ⟨fun c => ?_, hok, hp, by omega⟩
  unfold listenP
  rw [e0, if_neg (by omega), if_neg (by omega), if_pos ⟨by omega, by omega⟩]
  have ez : zF f = z := by unfold zF; rw [e1]; omega
  have et : tF f = 7 := by unfold tF; exact e2
  rw [ez, et, show f.getD 4 0 = p / 8 % 256 from e3, show 8 * (p / 8 % 256) = p by omega]
theorem TL_cutR {K : kN} {xs : List Nat} {z size : Nat} (hz1 : 40 ≤ z) (hz2 : z ≤ 600) (h1 : 56 ≤ size) (h2 : size ≤ 120) : ∀ d p, p % 8 = 0 → p ≤ z → z ≤ p + d * 48 → TL K z p (cutR xs z size 7 d p)
  | 0, p, _, hp, hd => by
    show p = z
    omega
  | d + 1, p, h8, hp, hd => by
    by_cases hlt : p < z
    · rw [cutR_go hlt]
      have hE : cutE z size p ≤ z ∧ p < cutE z size p ∧ (cutE z size p = z ∨ (cutE z size p % 8 = 0 ∧ p + 48 ≤ cutE z size p)) := by
        unfold cutE
        split <;> omega
      refine ⟨_, 5, PF_more hz1 hz2 h8 (by omega) (by omega) (by omega), ?_⟩
      have e : p + ((be (57344 + z) 2 ++ be 7 2 ++ [p / 8 % 256] ++ cutD xs p (cutE z size p - p)).length - 5) = cutE z size p := by
        simp only [List.length_append, be_len, cutD_len, List.length_cons, List.length_nil]; omega
      rw [e]
      rcases hE.2.2 with h | h
      · rw [h, cutR_stop (by omega)]; exact rfl
      · exact TL_cutR hz1 hz2 h1 h2 d _ h.1 hE.1 (by omega)
    · rw [cutR_stop hlt]
      show p = z
      omega
theorem pkH_le {xs : List Nat} (h : isPk xs) : pkH xs ≤ xs.length ∧ (pkH xs = 40 ∨ pkH xs = 48) := by
  unfold pkH
  split
  · rename_i h1
    exact ⟨((hasPB_iff xs).mp h1).2.1, Or.inr rfl⟩
  · exact ⟨h.1, Or.inl rfl⟩
theorem sqAll_AT (K : kN) (xs : List Nat) : AT (sqAll K xs) 0 (sqHd K xs) := (AT_ap (AT_rf (sqAll K xs))).1
theorem sqHd_0 {K : kN} {xs bs : List Nat} {s : Nat} (h : AT bs s (sqHd K xs)) : bs.getD s 0 / 32 = 3 := by
  have e := (AT_1 (show AT bs s (sqB1 (sqTF (pkT xs) (pkL xs)) (sqHL (xs.getD 7 0)) (hasPB xs) :: _) from h)).1
  rw [e]
  exact (sqB1_u _ (sqTF_lt _ _) _ (sqHL_lt _) _).1
theorem cut_TL {K : kN} {xs : List Nat} {size : Nat} (hp : isPk xs) (hz : xs.length ≤ 200) (h1 : 56 ≤ size) (h2 : size ≤ 120) : ∃ fs, cutA (sqAll K xs) (sqHd K xs).length (pkH xs) xs size 7 = some fs ∧ ((∃ f P, fs = [f] ∧ P.length = xs.length ∧ ∀ c, listenP K f 0 c = (2, 0, 0, c, some P)) ∨ (2 ≤ fs.length ∧ TL K xs.length 0 fs)) := by
  have hl := sqHd_len K xs
  have hph := pkH_le hp
  have hz40 := hp.1
  have hsl := sqAll_length K xs
  have hh1 : 1 ≤ (sqHd K xs).length := by unfold sqHd; simp
  unfold cutA
  by_cases hc : (sqAll K xs).length ≤ size
  · rw [if_pos hc]
    have hA := sqAll_AT K xs
    have hu := sq_unf (r := xs.length - pkH xs) (o := none) hA (by omega) ⟨by omega, fun n h => by cases h⟩
    refine ⟨_, rfl, Or.inl ⟨_, uPk K (sqAll K xs) 0 none, rfl, by rw [hu.2]; omega, fun c => ?_⟩⟩
    unfold listenP
    rw [if_pos (sqHd_0 hA)]
    unfold allL
    rw [if_pos hu.1]
  · rw [if_neg hc, if_neg (by omega)]
    refine ⟨_, rfl, Or.inr ?_⟩
    have hM : cutM (sqHd K xs).length size % 8 = 0 ∧ (sqHd K xs).length + cutM (sqHd K xs).length size + 4 ≤ size := by unfold cutM; omega
    generalize cutM (sqHd K xs).length size = M at *
    have hlt : pkH xs + M < xs.length := by omega
    refine ⟨by rw [cutR_go hlt]; simp, ?_⟩
    have hfl : (be (49152 + xs.length) 2 ++ be 7 2 ++ cutD (sqAll K xs) 0 ((sqHd K xs).length + M)).length = 4 + (sqHd K xs).length + M := by simp only [List.length_append, be_len, cutD_len]; omega
    have h0 := AT_rf (be (49152 + xs.length) 2 ++ be 7 2 ++ cutD (sqAll K xs) 0 ((sqHd K xs).length + M))
    obtain ⟨g1, g2⟩ := AT_ap h0
    obtain ⟨g3, g4⟩ := AT_ap g1
    rw [List.length_append, be_len, be_len] at g2
    rw [be_len] at g4
    generalize be (49152 + xs.length) 2 ++ be 7 2 ++ cutD (sqAll K xs) 0 ((sqHd K xs).length + M) = f at hfl g2 g3 g4 ⊢
    clear h0 g1
    have hA : AT f 4 (sqHd K xs) := by
      have hA0 := (sqAll_AT K xs).2
      refine ⟨by omega, fun i hi => ?_⟩
      have e := g2.2 i (by rw [cutD_len]; omega)
      rw [cutD_gD (by omega), hA0 i hi] at e
      exact e
    have e0 := AT_be0 g3
    have e1 := AT_nb2 g3 (by omega)
    have e2 := AT_nb2 g4 (by decide)
    have hu := sq_unf (r := M) (o := some (xs.length - 40)) hA (by omega) ⟨by omega, fun n h => by cases h; omega⟩
    refine ⟨uPk K f 4 (some (xs.length - 40)), 0, ⟨fun c => ?_, ?_, rfl, by rw [hu.2]; omega⟩, ?_⟩
    · have ez : zF f = xs.length := by unfold zF; rw [e1]; omega
      have et : tF f = 7 := by unfold tF; exact e2
      unfold listenP
      rw [e0, if_neg (by omega), if_pos ⟨by omega, by omega⟩]
      unfold firstL
      rw [ez, et, if_neg (by omega), if_pos hu.1]
    · rw [hu.2]
      exact ⟨hz40, hp.2.1, by omega, Or.inl (by omega)⟩
    · rw [hu.2, Nat.sub_zero, Nat.zero_add]
      exact TL_cutR hz40 hp.2.1 h1 h2 39 _ (by omega) (by omega) (by omega)
/-- as functions: places, bytes -/
theorem TL_fn {K : kN} {z : Nat} : ∀ (fs : List (List Nat)) (p : Nat), TL K z p fs → ∃ (q : Nat → Nat) (Y : Nat → List Nat) (s : Nat → Nat), q 0 = p ∧ q fs.length = z ∧ ∀ k, k < fs.length → PF K z (fs.getD k []) (q k) (Y k) (s k) ∧ q (k + 1) = q k + ((Y k).length - s k)
  | [], p, h => ⟨fun _ => p, fun _ => [], fun _ => 0, rfl, h, fun k hk => absurd hk (Nat.not_lt_zero _)⟩
  | f :: fs, p, h => by
    obtain ⟨Y, s, h1, h2⟩ := h
    obtain ⟨q, Y', s', a1, a2, a3⟩ := TL_fn fs _ h2
    refine ⟨fun k => match k with | 0 => p | k + 1 => q k, fun k => match k with | 0 => Y | k + 1 => Y' k, fun k => match k with | 0 => s | k + 1 => s' k, rfl, a2, fun k hk => ?_⟩
    match k, hk with
    | 0, _ => exact ⟨h1, a1⟩
    | k + 1, hk => exact a3 k (by simpa using hk)
