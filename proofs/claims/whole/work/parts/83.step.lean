/-! one call of the law: both answer the same, and hold the same behind it -/
def WFB (tp ot : List Nat) (fr : List (List Nat)) : Prop := ((∀ x ∈ tp, x < 256) ∧ tp.length ≤ 640) ∧ ((∀ x ∈ ot, x < 256) ∧ ot.length ≤ 640) ∧ ∀ f ∈ fr, (∀ x ∈ f, x < 256) ∧ f.length ≤ 120 ∧ 1 ≤ f.length
def F1 (fr : List (List Nat)) : Prop := ∀ f ∈ fr, 1 ≤ f.length
def BS (Sc Sm : tw_S) (N : Nat) : Prop := ∃ (K : kN) (tp ot : List Nat) (fr : List (List Nat)) (T : Nat → Int32) (c : Nat → cH) (hl : List mE) (ck wh dr la an : Nat), CI Sc K tp ot fr T c ck wh dr la an ∧ MI Sm K tp ot fr T hl ck wh dr la an ∧ HR ck c hl ∧ NB c ∧ F1 fr ∧ ck ≤ N
theorem WFB_f {tp ot : List Nat} {fr : List (List Nat)} (h : WFB tp ot fr) : ∀ k, k < fr.length → (∀ x ∈ fr.getD k [], x < 256) ∧ (fr.getD k []).length ≤ 120 := fun k hk => ⟨(h.2.2 _ (gD_mem hk [])).1, (h.2.2 _ (gD_mem hk [])).2.1⟩
theorem WFB_1 {tp ot : List Nat} {fr : List (List Nat)} (h : WFB tp ot fr) : ∀ k, k < fr.length → 1 ≤ (fr.getD k []).length := fun k hk => (h.2.2 _ (gD_mem hk [])).2.2
theorem cutR_wf {xs : List Nat} (hb : ∀ x ∈ xs, x < 256) {z size tag : Nat} (h1 : 40 ≤ size) (h2 : size ≤ 120) : ∀ (d p : Nat), ∀ f ∈ cutR xs z size tag d p, (∀ x ∈ f, x < 256) ∧ f.length ≤ 120 ∧ 1 ≤ f.length
  | 0, p, f, h => by simp [cutR] at h
  | d + 1, p, f, h => by
    unfold cutR at h
    split at h
    · rename_i hp
      rcases List.mem_cons.mp h with rfl | h
      · have hE : cutE z size p - p ≤ size - 5 := by unfold cutE; split <;> omega
        refine ⟨fun x hx => ?_, ?_, ?_⟩
        · simp only [List.mem_append, List.mem_singleton] at hx
          rcases hx with ((hx | hx) | hx) | hx
          · exact be_lt hx
          · exact be_lt hx
          · rw [hx]; exact Nat.mod_lt _ (by decide)
          · exact cutD_b hb hx
        · simp only [List.length_append, be_len, cutD_len, List.length_singleton]; omega
        · simp only [List.length_append, be_len, cutD_len, List.length_singleton]; omega
      · exact cutR_wf hb h1 h2 d _ f h
    · simp at h
theorem cutA_wf {sq xs : List Nat} {hd ph size tag : Nat} {fs : List (List Nat)} (hq : ∀ x ∈ sq, x < 256) (hb : ∀ x ∈ xs, x < 256) (hs : 1 ≤ sq.length) (h1 : 40 ≤ size) (h2 : size ≤ 120) (h : cutA sq hd ph xs size tag = some fs) : ∀ f ∈ fs, (∀ x ∈ f, x < 256) ∧ f.length ≤ 120 ∧ 1 ≤ f.length := by
  intro f hf
  unfold cutA at h
  split at h
  · cases h
    rw [List.mem_singleton.mp hf]
    exact ⟨hq, by omega, hs⟩
  · split at h
    · cases h
    · cases h
      rcases List.mem_cons.mp hf with rfl | hf
      · have hM : hd + cutM hd size ≤ size - 4 := by unfold cutM; omega
        refine ⟨fun x hx => ?_, ?_, ?_⟩
        · simp only [List.mem_append] at hx
          rcases hx with (hx | hx) | hx
          · exact be_lt hx
          · exact be_lt hx
          · exact cutD_b hq hx
        · simp only [List.length_append, be_len, cutD_len]; omega
        · simp only [List.length_append, be_len, cutD_len]; omega
      · exact cutR_wf hb h1 h2 _ _ f hf
theorem wf_WFB {G : tw_G} {Sc : tw_S} {K : kN} {tp ot : List Nat} {fr : List (List Nat)} {T : Nat → Int32} {c : Nat → cH} {ck wh dr la an : Nat} (hG : tw_cG G) (h : tw_wf G Sc) (hC : CI Sc K tp ot fr T c ck wh dr la an) (h1 : F1 fr) : WFB tp ot fr := by
  have r1 := h 1 (hG 1 (by decide)) (by decide)
  have r3 := h 3 (hG 3 (by decide)) (by decide)
  rw [hC.2.1] at r1
  rw [hC.2.2.1] at r3
  refine ⟨⟨r1.2, r1.1⟩, ⟨r3.2, r3.1⟩, fun f hf => ?_⟩
  obtain ⟨k, hk, e⟩ := mem_at hf []
  have hF := hC.2.2.2.1
  have h40 : fr.length ≤ 40 := hF.1
  have hr := h (34 + 2 * k) (hG _ (by omega)) (by unfold tw_isRow; simp; omega)
  rw [hF.2.2 k hk, e] at hr
  have hc : tw_cap (34 + 2 * k) = 120 := by unfold tw_cap; rw [if_neg (by omega), if_neg (by omega)]
  rw [hc] at hr
  exact ⟨hr.2, hr.1, h1 f hf⟩
section ST
variable {Sc Sm Sc' Sm' : tw_S} {K : kN} {tp ot : List Nat} {fr : List (List Nat)} {T : Nat → Int32} {c : Nat → cH} {hl : List mE} {ck wh dr la an N : Nat} {v v2 : Int32}
theorem BS_same (hC : CI Sc K tp ot fr T c ck wh dr la an) (hM : MI Sm K tp ot fr T hl ck wh dr la an) (hR : HR ck c hl) (hB : NB c) (hW : F1 fr) (hN : ck ≤ N) {a : Int32} (p : v = a ∧ Sc = Sc') (q : v2 = a ∧ Sm = Sm') : v = v2 ∧ BS Sc' Sm' (N + 1000) := by
  obtain ⟨rfl, rfl⟩ := p
  obtain ⟨rfl, rfl⟩ := q
  exact ⟨rfl, K, tp, ot, fr, T, c, hl, ck, wh, dr, la, an, hC, hM, hR, hB, hW, by omega⟩
theorem BS_to {K' : kN} {tp' ot' : List Nat} {fr' : List (List Nat)} {T' : Nat → Int32} (hR : HR ck c hl) (hB : NB c) (hW : F1 fr') (hN : ck ≤ N) {a : Int32} (p : v = a ∧ CI Sc' K' tp' ot' fr' T' c ck wh dr la an) (q : v2 = a ∧ MI Sm' K' tp' ot' fr' T' hl ck wh dr la an) : v = v2 ∧ BS Sc' Sm' (N + 1000) := by
  obtain ⟨rfl, p⟩ := p
  obtain ⟨rfl, q⟩ := q
  exact ⟨rfl, K', tp', ot', fr', T', c, hl, ck, wh, dr, la, an, p, q, hR, hB, hW, by omega⟩
theorem BS_if {P : Prop} [Decidable P] {A B A' B' : Prop} {Z : Prop} (p : if P then A else B) (q : if P then A' else B') (h1 : P → A → A' → Z) (h2 : ¬ P → B → B' → Z) : Z := by
  by_cases h : P
  · rw [if_pos h] at p q; exact h1 h p q
  · rw [if_neg h] at p q; exact h2 h p q
theorem xor_m {x m : Nat} (h : x < 256) : (x ^^^ m) % 256 = x ^^^ m % 256 := by
  have h1 : x % 2 ^ 8 = x := Nat.mod_eq_of_lt h
  rw [show (256 : Nat) = 2 ^ 8 from rfl, Nat.xor_mod_two_pow, h1]
theorem F1_set (h : F1 fr) {k i b : Nat} (hi : i < (fr.getD k []).length) : F1 (fr.set k ((fr.getD k []).set i b)) := fun f hf => by
  rcases List.mem_or_eq_of_mem_set hf with h1 | rfl
  · exact h f h1
  · rw [List.length_set]; omega
theorem F1_put (h : F1 fr) {k : Nat} : F1 (putA tp fr k).2 := by
  unfold putA
  split
  · exact h
  · split
    · exact h
    · rename_i h2
      split
      · intro f hf
        rcases List.mem_or_eq_of_mem_set hf with h1 | rfl
        · exact h f h1
        · omega
      · split
        · intro f hf
          rcases List.mem_append.mp hf with h1 | h1
          · exact h f h1
          · rw [List.mem_singleton.mp h1]; omega
        · exact h
theorem F1_slice (hW : WFB tp ot fr) (h : F1 fr) {i g : Nat} (h1 : 40 ≤ i) (h2 : i ≤ 120) (hp : isPkB tp = true) : F1 (slF (cutA (sqAll K tp) (sqHd K tp).length (pkH tp) tp i g) fr) := by
  cases hx : cutA (sqAll K tp) (sqHd K tp).length (pkH tp) tp i g with
  | none => exact h
  | some fs =>
    have hb := sqAll_b K hW.1.1
    have hl : 1 ≤ (sqAll K tp).length := by
      have e : (sqAll K tp).length = (sqHd K tp).length + (tp.length - pkH tp) := by rw [sqAll, List.length_append, cutD_len]
      have e2 : 1 ≤ (sqHd K tp).length := by unfold sqHd; simp
      omega
    exact fun f hf => (cutA_wf hb hW.1.1 hl h1 h2 hx f hf).2.2
theorem st_hear {k : Nat} (hC : CI Sc K tp ot fr T c ck wh dr la an) (hM : MI Sm K tp ot fr T hl ck wh dr la an) (hR : HR ck c hl) (hB : NB c) (hF : F1 fr) (hN : ck ≤ N) (hW : WFB tp ot fr)
    (p : if k < fr.length then v = nI (listenP K (fr.getD k []) ck c).1 ∧ CI Sc' K tp (oSel (listenP K (fr.getD k []) ck c).2.2.2.2 ot) fr T ((listenP K (fr.getD k []) ck c).2.2.2.1) ck (wh + (if (listenP K (fr.getD k []) ck c).1 = 2 then 1 else 0)) (dr + (if (listenP K (fr.getD k []) ck c).1 = 0 then 1 else 0)) (la + (listenP K (fr.getD k []) ck c).2.1) (an + (listenP K (fr.getD k []) ck c).2.2.1) else v = -1 ∧ Sc = Sc')
    (q : if k < fr.length then PostH K tp ot fr T hl ck wh dr la an (fr.getD k []) v2 Sm' else v2 = -1 ∧ Sm = Sm') : v = v2 ∧ BS Sc' Sm' (N + 1000) := by
  by_cases h : k < fr.length
  · rw [if_pos h] at p q
    obtain ⟨hl', r1, r4, r2, r3⟩ := tie_H hB hR (WFB_f hW k h).1 q
    exact ⟨p.1.trans r2.symm, K, tp, _, fr, T, _, hl', ck, _, _, _, _, p.2, r3, r1, r4, hF, by omega⟩
  · rw [if_neg h] at p q
    exact BS_same hC hM hR hB hF hN p q
theorem HR_eW (h : HR ck c hl) : (∀ e ∈ hl, eW e) ∧ (∀ e ∈ hl, e.2.2.2.length + 1 < 100) ∧ (∀ e ∈ hl, e.1 < 2 ^ 30 ∧ e.2.1 < 2 ^ 30) ∧ ∀ e ∈ hl, e.2.2.1 ≤ ck := by
  obtain ⟨pl, h1, h2, h3, h4, h5⟩ := h
  have hE : ∀ e ∈ hl, ∃ k, k < hl.length ∧ EQ ck (c (pl k)) e := fun e he => by
    obtain ⟨k, hk, e1⟩ := mem_at he d0
    exact ⟨k, hk, by rw [← e1]; exact h4 k hk⟩
  refine ⟨fun e he => ?_, fun e he => ?_, fun e he => ?_, fun e he => ?_⟩
  · obtain ⟨k, -, q⟩ := hE e he
    have q8 := q.2.2.2.2.2.2.2.1
    have q9 := q.2.2.2.2.2.2.2.2
    have hl := PR_len q9 q8.2.1
    refine ⟨by omega, fun j hj => ?_⟩
    have := (q9.1 j hj).2.2.1
    have h6 : (e.2.2.2.getD j p0).1 + (e.2.2.2.getD j p0).2.length ≤ 600 := by omega
    exact h6
  · obtain ⟨k, -, q⟩ := hE e he
    have hl := PR_len q.2.2.2.2.2.2.2.2 q.2.2.2.2.2.2.2.1.2.1
    omega
  · obtain ⟨k, -, q⟩ := hE e he
    have q8 := q.2.2.2.2.2.2.2.1
    omega
  · obtain ⟨k, -, q⟩ := hE e he
    exact q.2.2.2.2.2.2.2.1.2.2.2
end ST
