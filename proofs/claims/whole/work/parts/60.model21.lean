/-! the model's heaps -/
abbrev d0 : mE := (0, 0, 0, [])
/-- heap h of the model holds e -/
def eP (S : tw_S) (h : Nat) (e : mE) : Prop := tw_A S 127 h = nI e.1 ∧ tw_A S 128 h = nI e.2.1 ∧ tw_A S 129 h = nI e.2.2.1 ∧ tw_A S 131 h = nI e.2.2.2.length ∧ ∀ i, i < e.2.2.2.length → tw_A S 132 (100 * h + i) = nI (e.2.2.2.getD i (0, [])).1 ∧ tw_A S 133 (100 * h + i) = nI (e.2.2.2.getD i (0, [])).2.length ∧ ∀ j, j < (e.2.2.2.getD i (0, [])).2.length → tw_A S 130 (600 * h + (e.2.2.2.getD i (0, [])).1 + j) = nI ((e.2.2.2.getD i (0, [])).2.getD j 0)
theorem mHp_eP {S : tw_S} {hl : List mE} (h : mHp S hl) {k : Nat} (hk : k < hl.length) : eP S k (hl.getD k d0) := h.2.2 k hk
theorem eP_mHp {S : tw_S} {hl : List mE} (h3 : hl.length ≤ 3) (h : tw_I S 114 34 = nI hl.length) (g : ∀ k, k < hl.length → eP S k (hl.getD k d0)) : mHp S hl := ⟨h3, h, g⟩
def eW (e : mE) : Prop := e.2.2.2.length < 100 ∧ ∀ i, i < e.2.2.2.length → (e.2.2.2.getD i (0, [])).1 + (e.2.2.2.getD i (0, [])).2.length ≤ 600
/-- row q is as row r was -/
def rE (S : tw_S) (q : Nat) (S0 : tw_S) (r : Nat) : Prop := tw_A S 127 q = tw_A S0 127 r ∧ tw_A S 128 q = tw_A S0 128 r ∧ tw_A S 129 q = tw_A S0 129 r ∧ tw_A S 131 q = tw_A S0 131 r ∧ (∀ k, k < 600 → tw_A S 130 (600 * q + k) = tw_A S0 130 (600 * r + k)) ∧ ∀ k, k < 100 → tw_A S 132 (100 * q + k) = tw_A S0 132 (100 * r + k) ∧ tw_A S 133 (100 * q + k) = tw_A S0 133 (100 * r + k)
theorem rE_rf (S : tw_S) (q : Nat) : rE S q S q := ⟨rfl, rfl, rfl, rfl, fun _ _ => rfl, fun _ _ => ⟨rfl, rfl⟩⟩
theorem rE_tr {S S1 S0 : tw_S} {q r t : Nat} (h : rE S q S1 r) (g : rE S1 r S0 t) : rE S q S0 t := ⟨h.1.trans g.1, h.2.1.trans g.2.1, h.2.2.1.trans g.2.2.1, h.2.2.2.1.trans g.2.2.2.1, fun k hk => (h.2.2.2.2.1 k hk).trans (g.2.2.2.2.1 k hk), fun k hk => ⟨(h.2.2.2.2.2 k hk).1.trans (g.2.2.2.2.2 k hk).1, (h.2.2.2.2.2 k hk).2.trans (g.2.2.2.2.2 k hk).2⟩⟩
theorem eP_rE {S S0 : tw_S} {q r : Nat} {e : mE} (h : eP S0 r e) (g : rE S q S0 r) (w : eW e) : eP S q e := by
  refine ⟨g.1.trans h.1, g.2.1.trans h.2.1, g.2.2.1.trans h.2.2.1, g.2.2.2.1.trans h.2.2.2.1, fun i hi => ?_⟩
  have w1 := w.1
  have w2 := w.2 i hi
  obtain ⟨h1, h2, h3⟩ := h.2.2.2.2 i hi
  refine ⟨((g.2.2.2.2.2 i (by omega)).1).trans h1, ((g.2.2.2.2.2 i (by omega)).2).trans h2, fun j hj => ?_⟩
  have h4 := h3 j hj
  rw [Nat.add_assoc] at h4 ⊢
  exact (g.2.2.2.2.1 _ (by omega)).trans h4
/-- nothing but the heaps has changed -/
def mHf (S' S : tw_S) : Prop := (∀ k, k ≠ 34 → tw_I S' 114 k = tw_I S 114 k) ∧ ∀ r, r < 127 ∨ 133 < r → tw_A S' r = tw_A S r
theorem mHf_rf (S : tw_S) : mHf S S := ⟨fun _ _ => rfl, fun _ _ => rfl⟩
theorem mHf_tr {S S1 S2 : tw_S} (h : mHf S S1) (g : mHf S1 S2) : mHf S S2 := ⟨fun k hk => (h.1 k hk).trans (g.1 k hk), fun r hr => (h.2 r hr).trans (g.2 r hr)⟩
theorem mHf_uA {S' S : tw_S} {r i : Nat} {x : Int32} (h : mHf S' S) (hr : 127 ≤ r ∧ r ≤ 133) : mHf (tw_uA S' r i x) S := ⟨h.1, fun q hq => by rw [← h.2 q hq]; funext j; rw [tq_A_uA, if_neg (by omega)]⟩
theorem mHf_wA {S' S : tw_S} {r : Nat} {f : Nat → Int32} (h : mHf S' S) (hr : 127 ≤ r ∧ r ≤ 133) : mHf (tw_wA S' r f) S := ⟨h.1, fun q hq => by rw [← h.2 q hq]; funext j; simp only [tw_A, tw_wA]; rw [if_neg (by omega)]⟩
theorem mHf_34 {S' S : tw_S} {x : Int32} (h : mHf S' S) : mHf (tw_uI S' 114 34 x) S := ⟨fun k hk => by rw [← h.1 k hk, tq_I_uI, if_neg (by omega)], h.2⟩
theorem MI_mHf {S S' : tw_S} {K : kN} {tp ot : List Nat} {fr : List (List Nat)} {T : Nat → Int32} {hl : List mE} {ck wh dr la an : Nat} {hl' : List mE} (h : MI S K tp ot fr T hl ck wh dr la an) (g : mHf S' S) (m : mHp S' hl') : MI S' K tp ot fr T hl' ck wh dr la an := by
  have hA := g.2
  have hi := g.1
  unfold MI mK mR mF mL mC at h ⊢
  rw [hA 115 (by decide), hA 116 (by decide), hA 117 (by decide), hA 118 (by decide), hA 119 (by decide), hA 124 (by decide), hA 125 (by decide), hA 126 (by decide), hi 4 (by decide), hi 6 (by decide), hi 32 (by decide), hi 27 (by decide), hi 28 (by decide), hi 33 (by decide), hi 42 (by decide), hi 43 (by decide), hi 44 (by decide), hi 45 (by decide)]
  exact ⟨h.1, h.2.1, h.2.2.1, h.2.2.2.1, h.2.2.2.2.1, m, h.2.2.2.2.2.2⟩
theorem iteN {a b : Prop} [Decidable a] [Decidable b] (h : a ↔ b) {x y : Nat} : (if a then x else y) = (if b then x else y) := by
  by_cases ha : a
  · rw [if_pos ha, if_pos (h.mp ha)]
  · rw [if_neg ha, if_neg (fun g => ha (h.mpr g))]
/-- one row moved down -/
def G3 (S : tw_S) (i : Nat) (f a b : Nat → Int32) : tw_S := tw_wA (tw_wA (tw_wA (tw_uA (tw_uA (tw_uA (tw_uA S 127 i (tw_A S 127 (i + 1))) 128 i (tw_A S 128 (i + 1))) 129 i (tw_A S 129 (i + 1))) 131 i (tw_A S 131 (i + 1))) 130 f) 132 a) 133 b
theorem G3_mHf {S : tw_S} {i : Nat} {f a b : Nat → Int32} : mHf (G3 S i f a b) S := mHf_wA (mHf_wA (mHf_wA (mHf_uA (mHf_uA (mHf_uA (mHf_uA (mHf_rf S) (by decide)) (by decide)) (by decide)) (by decide)) (by decide)) (by decide)) (by decide)
def mvd (g f : Nat → Int32) (w i k : Nat) : Prop := ∀ j, f j = if w * i ≤ j ∧ j < w * i + k then g (j + w) else g j
theorem mvd_0 {g : Nat → Int32} {w i : Nat} : mvd g g w i 0 := fun j => by rw [if_neg (by omega)]
theorem mvd_s {g f : Nat → Int32} {w i k : Nat} (h : mvd g f w i k) (hk : k < w) : mvd g (upd f (w * i + k) (f (w * i + w + k))) w i (k + 1) := by
  intro j
  simp only [upd]
  by_cases hj : j = w * i + k
  · rw [if_pos hj, if_pos (by omega), h, if_neg (by omega), hj]
    congr 1
    omega
  · rw [if_neg hj, h j]
    by_cases h2 : w * i ≤ j ∧ j < w * i + k
    · rw [if_pos h2, if_pos (by omega)]
    · rw [if_neg h2, if_neg (by omega)]
theorem G3_rE {S : tw_S} {i : Nat} {f a b : Nat → Int32} (hf : mvd (tw_A S 130) f 600 i 600) (ha : mvd (tw_A S 132) a 100 i 100) (hb : mvd (tw_A S 133) b 100 i 100) (q : Nat) : rE (G3 S i f a b) q S (if q = i then i + 1 else q) := by
  have e : ∀ r, (r = 127 ∨ r = 128 ∨ r = 129 ∨ r = 131) → tw_A (G3 S i f a b) r q = if q = i then tw_A S r (i + 1) else tw_A S r q := by
    intro r hr
    by_cases hq : q = i
    · subst hq
      rcases hr with rfl | rfl | rfl | rfl <;> simp [G3, tw_A, tw_uA, tw_wA]
    · rcases hr with rfl | rfl | rfl | rfl <;> simp [G3, tw_A, tw_uA, tw_wA, hq]
  have e0 : tw_A (G3 S i f a b) 130 = f := rfl
  have e2 : tw_A (G3 S i f a b) 132 = a := rfl
  have e3 : tw_A (G3 S i f a b) 133 = b := rfl
  unfold rE
  rw [e 127 (by decide), e 128 (by decide), e 129 (by decide), e 131 (by decide), e0, e2, e3]
  by_cases hq : q = i
  · subst hq
    simp only [if_true]
    refine ⟨trivial, trivial, trivial, trivial, fun k hk => ?_, fun k hk => ⟨?_, ?_⟩⟩
    · rw [hf, if_pos (by omega)]; congr 1; omega
    · rw [ha, if_pos (by omega)]; congr 1; omega
    · rw [hb, if_pos (by omega)]; congr 1; omega
  · simp only [hq, if_false]
    refine ⟨trivial, trivial, trivial, trivial, fun k hk => ?_, fun k hk => ⟨?_, ?_⟩⟩
    · rw [hf, if_neg (by omega)]
    · rw [ha, if_neg (by omega)]
    · rw [hb, if_neg (by omega)]
theorem W2_a (S : tw_S) (a b : Nat → Int32) (i : Nat) (x : Int32) : tw_uA (tw_wA (tw_wA S 132 a) 133 b) 132 i x = tw_wA (tw_wA S 132 (upd a i x)) 133 b := by
  simp only [tw_uA, tw_wA, Prod.mk.injEq, true_and, and_true]
  funext q j
  by_cases h : q = 132
  · subst h
    by_cases h2 : j = i <;> simp [h2, upd]
  · simp [h]
theorem W2_s (S : tw_S) : S = tw_wA (tw_wA S 132 (tw_A S 132)) 133 (tw_A S 133) := by rw [wA_self, wA_self]
theorem c_X11_goes {G : tw_G} (hM : tw_mG G) {S : tw_S} {m h : Nat} (h34 : tw_I S 114 34 = nI m) (hm : m ≤ 3) (hh : h < m) : tw_M G yX11_goes cX11_goes 4 none 0 0 [.ref (tw_ad G 114), .int (nI h)] S ri_V (fun _ S' => ∃ S1, S' = tw_uI S1 114 34 (nI (m - 1)) ∧ mHf S1 S ∧ ∀ q, q < 3 → rE S1 q S (if h ≤ q ∧ q + 1 < m then q + 1 else q)) := by
  refine tw_M.of (L := [(0, .ref (tw_ad G 114)), (1, .int (nI h))]) (by decide) (Nat.le_of_ble_eq_true rfl) rfl (fun X C N Q => ?_)
  have C : tw_C G X cX11_goes RX11 := C
  have loop : ∀ (d : Nat) (i : Nat) (S1 : tw_S) (_ : i + 1 + d = max (i + 1) m) (_ : h ≤ i) (_ : i + 1 ≤ max (h + 1) m) (_ : mHf S1 S) (_ : tw_I S1 114 34 = nI m) (_ : ∀ q, q < 3 → rE S1 q S (if h ≤ q ∧ q < i then q + 1 else q)), TW G X S1 [(2, .int (nI i)), (0, .ref (tw_ad G 114)), (1, .int (nI h))] 2 [] := by
    intro d
    induction d with
    | zero =>
      intro i S1 hd hhi him hf0 h34 hr
      refine tw_iload_n C dX11_goes_2 0 rfl ?_
      refine tw_iconst C dX11_goes_3 (v := nI 1) (by decide) ?_
      refine tw_iadd C dX11_goes_4 (v := nI (i + 1)) (nI_add _ _) ?_
      refine tw_aload_n C dX11_goes_5 1 rfl ?_
      refine tw_getI (v := nI m) (k := 34) C dX11_goes_6 fc_X11 sh_114 (hM 114 (by decide) (by decide)) rfl (by decide) wd_849 h34 ?_
      refine tn_icmp_ge C dX11_goes_9 (tgt := 181) (by decide) (by omega) (by omega) (fun c1 => ?_) (fun c1 => ?_)
      · skip
        refine tw_aload_n C dX11_goes_181 1 rfl ?_
        refine tw_dup C dX11_goes_182 rfl ?_
        refine tw_getI (v := nI m) (k := 34) C dX11_goes_183 fc_X11 sh_114 (hM 114 (by decide) (by decide)) rfl (by decide) wd_849 h34 ?_
        refine tw_iconst C dX11_goes_186 (v := nI 1) (by decide) ?_
        refine tw_isub C dX11_goes_187 (v := nI (m - 1)) (pk_sub (by omega)) ?_
        refine tw_putI (k := 34) C dX11_goes_188 fc_X11 sh_114 (hM 114 (by decide) (by decide)) rfl (by decide) rfl wd_849 rfl rfl ?_
        exact tw_return (v := ()) C Q dX11_goes_191 rfl rfl ⟨S1, rfl, hf0, fun q hq => by have h9 := hr q hq; rw [iteN (show (h ≤ q ∧ q < i) ↔ (h ≤ q ∧ q + 1 < m) by omega)] at h9; exact h9⟩
      · exact absurd c1 (by omega)
    | succ d ih =>
      intro i S1 hd hhi him hf0 h34 hr
      have hi3 : i + 1 < m := by omega
      have loopP : ∀ (f : Nat → Int32) (_ : mvd (tw_A S1 130) f 600 i 600), ∀ (dk : Nat) (k : Nat) (a b : Nat → Int32) (_ : k + dk = 100) (ha : mvd (tw_A S1 132) a 100 i k) (hb : mvd (tw_A S1 133) b 100 i k), TW G X (tw_wA (tw_wA (tw_wA (tw_uA (tw_uA (tw_uA (tw_uA S1 127 i (tw_A S1 127 (i + 1))) 128 i (tw_A S1 128 (i + 1))) 129 i (tw_A S1 129 (i + 1))) 131 i (tw_A S1 131 (i + 1))) 130 f) 132 a) 133 b) [(3, .int (nI k)), (2, .int (nI i)), (0, .ref (tw_ad G 114)), (1, .int (nI h))] 113 [] := by
        intro f hf dk
        induction dk with
        | zero =>
          intro k a b hk ha hb
          refine tw_iload_n C dX11_goes_113 0 rfl ?_
          refine tw_bipush C dX11_goes_114 (v := nI 100) (by decide) ?_
          refine tn_icmp_ge C dX11_goes_116 (tgt := 175) (by decide) (by omega) (by omega) (fun c1 => ?_) (fun c1 => ?_)
          · skip
            refine tw_iinc (k := 1) (v := nI (i + 1)) (L' := [(2, .int (nI (i + 1))), (3, .int (nI k)), (0, .ref (tw_ad G 114)), (1, .int (nI h))]) C N dX11_goes_175 rfl (tn_inc1 _) (by decide) rfl ?_
            refine tw_goto C dX11_goes_178 (tgt := 2) (by decide) ?_
            have hk9 : k = 100 := by omega
            subst hk9
            refine TW.c (L' := [(2, .int (nI (i + 1))), (0, .ref (tw_ad G 114)), (1, .int (nI h))]) (by simp) ?_
            exact ih (i + 1) (G3 S1 i f a b) (by omega) (by omega) (by omega) (mHf_tr G3_mHf hf0) h34 (fun q hq => by
              have h9 := G3_rE hf ha hb q
              by_cases hqi : q = i
              · rw [if_pos hqi] at h9
                rw [if_pos (by omega), hqi]
                rw [hqi] at h9
                have h8 := hr (i + 1) (by omega)
                rw [if_neg (by omega)] at h8
                exact rE_tr h9 h8
              · rw [if_neg hqi] at h9
                rw [iteN (show (h ≤ q ∧ q < i + 1) ↔ (h ≤ q ∧ q < i) by omega)]
                exact rE_tr h9 (hr q hq))
          · exact absurd c1 (by omega)
        | succ dk ihk =>
          intro k a b hk ha hb
          refine tw_iload_n C dX11_goes_113 0 rfl ?_
          refine tw_bipush C dX11_goes_114 (v := nI 100) (by decide) ?_
          refine tn_icmp_ge C dX11_goes_116 (tgt := 175) (by decide) (by omega) (by omega) (fun c1 => ?_) (fun c1 => ?_)
          · exact absurd c1 (by omega)
          refine tw_aload_n C dX11_goes_119 2 rfl ?_
          refine tw_getR (q := 132) (k := 40) C dX11_goes_120 fc_X11 sh_114 (hM 114 (by decide) (by decide)) rfl (by decide) wd_128 ?_
          refine tw_bipush C dX11_goes_123 (v := nI 100) (by decide) ?_
          refine tw_iload_n C dX11_goes_125 1 rfl ?_
          refine tw_imul C dX11_goes_126 (v := nI (100 * i)) (pk_mul _ _) ?_
          refine tw_iload_n C dX11_goes_127 0 rfl ?_
          refine tw_iadd C dX11_goes_128 (v := nI ((100 * i) + k)) (nI_add _ _) ?_
          refine tw_aload_n C dX11_goes_129 2 rfl ?_
          refine tw_getR (q := 132) (k := 40) C dX11_goes_130 fc_X11 sh_114 (hM 114 (by decide) (by decide)) rfl (by decide) wd_128 ?_
          refine tw_bipush C dX11_goes_133 (v := nI 100) (by decide) ?_
          refine tw_iload_n C dX11_goes_135 1 rfl ?_
          refine tw_imul C dX11_goes_136 (v := nI (100 * i)) (pk_mul _ _) ?_
          refine tw_bipush C dX11_goes_137 (v := nI 100) (by decide) ?_
          refine tw_iadd C dX11_goes_139 (v := nI ((100 * i) + 100)) (nI_add _ _) ?_
          refine tw_iload_n C dX11_goes_140 0 rfl ?_
          refine tw_iadd C dX11_goes_141 (v := nI (((100 * i) + 100) + k)) (nI_add _ _) ?_
          refine tw_iald (v := a ((100 * i + 100) + k)) C dX11_goes_142 sn_132 sa_132 (hM 132 (by decide) (by decide)) (by omega) (by decide) rfl ?_
          refine tw_iast C dX11_goes_143 sn_132 sa_132 (hM 132 (by decide) (by decide)) (by omega) (by decide) ?_
          refine TW.sS (S' := tw_wA (tw_wA (tw_wA (tw_uA (tw_uA (tw_uA (tw_uA S1 127 i (tw_A S1 127 (i + 1))) 128 i (tw_A S1 128 (i + 1))) 129 i (tw_A S1 129 (i + 1))) 131 i (tw_A S1 131 (i + 1))) 130 f) 132 (upd a ((100 * i) + k) (a ((100 * i + 100) + k)))) 133 b) (W2_a _ _ _ _ _) ?_
          refine tw_aload_n C dX11_goes_144 2 rfl ?_
          refine tw_getR (q := 133) (k := 41) C dX11_goes_145 fc_X11 sh_114 (hM 114 (by decide) (by decide)) rfl (by decide) wd_129 ?_
          refine tw_bipush C dX11_goes_148 (v := nI 100) (by decide) ?_
          refine tw_iload_n C dX11_goes_150 1 rfl ?_
          refine tw_imul C dX11_goes_151 (v := nI (100 * i)) (pk_mul _ _) ?_
          refine tw_iload_n C dX11_goes_152 0 rfl ?_
          refine tw_iadd C dX11_goes_153 (v := nI ((100 * i) + k)) (nI_add _ _) ?_
          refine tw_aload_n C dX11_goes_154 2 rfl ?_
          refine tw_getR (q := 133) (k := 41) C dX11_goes_155 fc_X11 sh_114 (hM 114 (by decide) (by decide)) rfl (by decide) wd_129 ?_
          refine tw_bipush C dX11_goes_158 (v := nI 100) (by decide) ?_
          refine tw_iload_n C dX11_goes_160 1 rfl ?_
          refine tw_imul C dX11_goes_161 (v := nI (100 * i)) (pk_mul _ _) ?_
          refine tw_bipush C dX11_goes_162 (v := nI 100) (by decide) ?_
          refine tw_iadd C dX11_goes_164 (v := nI ((100 * i) + 100)) (nI_add _ _) ?_
          refine tw_iload_n C dX11_goes_165 0 rfl ?_
          refine tw_iadd C dX11_goes_166 (v := nI (((100 * i) + 100) + k)) (nI_add _ _) ?_
          refine tw_iald (v := b ((100 * i + 100) + k)) C dX11_goes_167 sn_133 sa_133 (hM 133 (by decide) (by decide)) (by omega) (by decide) rfl ?_
          refine tw_iast C dX11_goes_168 sn_133 sa_133 (hM 133 (by decide) (by decide)) (by omega) (by decide) ?_
          refine TW.sS (S' := tw_wA (tw_wA (tw_wA (tw_uA (tw_uA (tw_uA (tw_uA S1 127 i (tw_A S1 127 (i + 1))) 128 i (tw_A S1 128 (i + 1))) 129 i (tw_A S1 129 (i + 1))) 131 i (tw_A S1 131 (i + 1))) 130 f) 132 (upd a ((100 * i) + k) (a ((100 * i + 100) + k)))) 133 (upd b ((100 * i) + k) (b ((100 * i + 100) + k)))) (wA_uA _ _ _ _ _) ?_
          refine tw_iinc (k := 0) (v := nI (k + 1)) (L' := [(3, .int (nI (k + 1))), (2, .int (nI i)), (0, .ref (tw_ad G 114)), (1, .int (nI h))]) C N dX11_goes_169 rfl (tn_inc1 _) (by decide) rfl ?_
          refine tw_goto C dX11_goes_172 (tgt := 113) (by decide) ?_
          refine TW.c (L' := [(3, .int (nI (k + 1))), (2, .int (nI i)), (0, .ref (tw_ad G 114)), (1, .int (nI h))]) (by simp) ?_
          exact ihk (k + 1) _ _ (by omega) (mvd_s ha (by omega)) (mvd_s hb (by omega))
      have loopB : ∀ (dk : Nat) (k : Nat) (f : Nat → Int32) (_ : k + dk = 600) (hf : mvd (tw_A S1 130) f 600 i k), TW G X (tw_wA (tw_uA (tw_uA (tw_uA (tw_uA S1 127 i (tw_A S1 127 (i + 1))) 128 i (tw_A S1 128 (i + 1))) 129 i (tw_A S1 129 (i + 1))) 131 i (tw_A S1 131 (i + 1))) 130 f) [(3, .int (nI k)), (2, .int (nI i)), (0, .ref (tw_ad G 114)), (1, .int (nI h))] 70 [] := by
        intro dk
        induction dk with
        | zero =>
          intro k f hk hf
          refine tw_iload_n C dX11_goes_70 0 rfl ?_
          refine tw_sipush C dX11_goes_71 (v := nI 600) (by decide) ?_
          refine tn_icmp_ge C dX11_goes_74 (tgt := 111) (by decide) (by omega) (by omega) (fun c1 => ?_) (fun c1 => ?_)
          · skip
            refine tw_iconst C dX11_goes_111 (v := nI 0) (by decide) ?_
            refine tw_istore_n (L' := [(3, .int (nI 0)), (2, .int (nI i)), (0, .ref (tw_ad G 114)), (1, .int (nI h))]) C N dX11_goes_112 rfl (by decide) rfl ?_
            have hk9 : k = 600 := by omega
            subst hk9
            refine TW.sS (W2_s _) ?_
            refine TW.c (L' := [(3, .int (nI 0)), (2, .int (nI i)), (0, .ref (tw_ad G 114)), (1, .int (nI h))]) (by simp) ?_
            exact loopP f hf 100 0 _ _ rfl mvd_0 mvd_0
          · exact absurd c1 (by omega)
        | succ dk ihk =>
          intro k f hk hf
          refine tw_iload_n C dX11_goes_70 0 rfl ?_
          refine tw_sipush C dX11_goes_71 (v := nI 600) (by decide) ?_
          refine tn_icmp_ge C dX11_goes_74 (tgt := 111) (by decide) (by omega) (by omega) (fun c1 => ?_) (fun c1 => ?_)
          · exact absurd c1 (by omega)
          refine tw_aload_n C dX11_goes_77 2 rfl ?_
          refine tw_getR (q := 130) (k := 38) C dX11_goes_78 fc_X11 sh_114 (hM 114 (by decide) (by decide)) rfl (by decide) wd_126 ?_
          refine tw_sipush C dX11_goes_81 (v := nI 600) (by decide) ?_
          refine tw_iload_n C dX11_goes_84 1 rfl ?_
          refine tw_imul C dX11_goes_85 (v := nI (600 * i)) (pk_mul _ _) ?_
          refine tw_iload_n C dX11_goes_86 0 rfl ?_
          refine tw_iadd C dX11_goes_87 (v := nI ((600 * i) + k)) (nI_add _ _) ?_
          refine tw_aload_n C dX11_goes_88 2 rfl ?_
          refine tw_getR (q := 130) (k := 38) C dX11_goes_89 fc_X11 sh_114 (hM 114 (by decide) (by decide)) rfl (by decide) wd_126 ?_
          refine tw_sipush C dX11_goes_92 (v := nI 600) (by decide) ?_
          refine tw_iload_n C dX11_goes_95 1 rfl ?_
          refine tw_imul C dX11_goes_96 (v := nI (600 * i)) (pk_mul _ _) ?_
          refine tw_sipush C dX11_goes_97 (v := nI 600) (by decide) ?_
          refine tw_iadd C dX11_goes_100 (v := nI ((600 * i) + 600)) (nI_add _ _) ?_
          refine tw_iload_n C dX11_goes_101 0 rfl ?_
          refine tw_iadd C dX11_goes_102 (v := nI (((600 * i) + 600) + k)) (nI_add _ _) ?_
          refine tw_iald (v := f ((600 * i + 600) + k)) C dX11_goes_103 sn_130 sa_130 (hM 130 (by decide) (by decide)) (by omega) (by decide) rfl ?_
          refine tw_iast C dX11_goes_104 sn_130 sa_130 (hM 130 (by decide) (by decide)) (by omega) (by decide) ?_
          refine tw_iinc (k := 0) (v := nI (k + 1)) (L' := [(3, .int (nI (k + 1))), (2, .int (nI i)), (0, .ref (tw_ad G 114)), (1, .int (nI h))]) C N dX11_goes_105 rfl (tn_inc1 _) (by decide) rfl ?_
          refine tw_goto C dX11_goes_108 (tgt := 70) (by decide) ?_
          rw [wA_uA]
          refine TW.c (L' := [(3, .int (nI (k + 1))), (2, .int (nI i)), (0, .ref (tw_ad G 114)), (1, .int (nI h))]) (by simp) ?_
          exact ihk (k + 1) _ (by omega) (mvd_s hf (by omega))
      refine tw_iload_n C dX11_goes_2 0 rfl ?_
      refine tw_iconst C dX11_goes_3 (v := nI 1) (by decide) ?_
      refine tw_iadd C dX11_goes_4 (v := nI (i + 1)) (nI_add _ _) ?_
      refine tw_aload_n C dX11_goes_5 1 rfl ?_
      refine tw_getI (v := nI m) (k := 34) C dX11_goes_6 fc_X11 sh_114 (hM 114 (by decide) (by decide)) rfl (by decide) wd_849 h34 ?_
      refine tn_icmp_ge C dX11_goes_9 (tgt := 181) (by decide) (by omega) (by omega) (fun c1 => ?_) (fun c1 => ?_)
      · exact absurd c1 (by omega)
      refine tw_aload_n C dX11_goes_12 1 rfl ?_
      refine tw_getR (q := 127) (k := 35) C dX11_goes_13 fc_X11 sh_114 (hM 114 (by decide) (by decide)) rfl (by decide) wd_123 ?_
      refine tw_iload_n C dX11_goes_16 0 rfl ?_
      refine tw_aload_n C dX11_goes_17 1 rfl ?_
      refine tw_getR (q := 127) (k := 35) C dX11_goes_18 fc_X11 sh_114 (hM 114 (by decide) (by decide)) rfl (by decide) wd_123 ?_
      refine tw_iload_n C dX11_goes_21 0 rfl ?_
      refine tw_iconst C dX11_goes_22 (v := nI 1) (by decide) ?_
      refine tw_iadd C dX11_goes_23 (v := nI (i + 1)) (nI_add _ _) ?_
      refine tw_iald (v := tw_A S1 127 (i + 1)) C dX11_goes_24 sn_127 sa_127 (hM 127 (by decide) (by decide)) (by omega) (by decide) rfl ?_
      refine tw_iast C dX11_goes_25 sn_127 sa_127 (hM 127 (by decide) (by decide)) (by omega) (by decide) ?_
      refine tw_aload_n C dX11_goes_26 1 rfl ?_
      refine tw_getR (q := 128) (k := 36) C dX11_goes_27 fc_X11 sh_114 (hM 114 (by decide) (by decide)) rfl (by decide) wd_124 ?_
      refine tw_iload_n C dX11_goes_30 0 rfl ?_
      refine tw_aload_n C dX11_goes_31 1 rfl ?_
      refine tw_getR (q := 128) (k := 36) C dX11_goes_32 fc_X11 sh_114 (hM 114 (by decide) (by decide)) rfl (by decide) wd_124 ?_
      refine tw_iload_n C dX11_goes_35 0 rfl ?_
      refine tw_iconst C dX11_goes_36 (v := nI 1) (by decide) ?_
      refine tw_iadd C dX11_goes_37 (v := nI (i + 1)) (nI_add _ _) ?_
      refine tw_iald (v := tw_A S1 128 (i + 1)) C dX11_goes_38 sn_128 sa_128 (hM 128 (by decide) (by decide)) (by omega) (by decide) rfl ?_
      refine tw_iast C dX11_goes_39 sn_128 sa_128 (hM 128 (by decide) (by decide)) (by omega) (by decide) ?_
      refine tw_aload_n C dX11_goes_40 1 rfl ?_
      refine tw_getR (q := 129) (k := 37) C dX11_goes_41 fc_X11 sh_114 (hM 114 (by decide) (by decide)) rfl (by decide) wd_125 ?_
      refine tw_iload_n C dX11_goes_44 0 rfl ?_
      refine tw_aload_n C dX11_goes_45 1 rfl ?_
      refine tw_getR (q := 129) (k := 37) C dX11_goes_46 fc_X11 sh_114 (hM 114 (by decide) (by decide)) rfl (by decide) wd_125 ?_
      refine tw_iload_n C dX11_goes_49 0 rfl ?_
      refine tw_iconst C dX11_goes_50 (v := nI 1) (by decide) ?_
      refine tw_iadd C dX11_goes_51 (v := nI (i + 1)) (nI_add _ _) ?_
      refine tw_iald (v := tw_A S1 129 (i + 1)) C dX11_goes_52 sn_129 sa_129 (hM 129 (by decide) (by decide)) (by omega) (by decide) rfl ?_
      refine tw_iast C dX11_goes_53 sn_129 sa_129 (hM 129 (by decide) (by decide)) (by omega) (by decide) ?_
      refine tw_aload_n C dX11_goes_54 1 rfl ?_
      refine tw_getR (q := 131) (k := 39) C dX11_goes_55 fc_X11 sh_114 (hM 114 (by decide) (by decide)) rfl (by decide) wd_127 ?_
      refine tw_iload_n C dX11_goes_58 0 rfl ?_
      refine tw_aload_n C dX11_goes_59 1 rfl ?_
      refine tw_getR (q := 131) (k := 39) C dX11_goes_60 fc_X11 sh_114 (hM 114 (by decide) (by decide)) rfl (by decide) wd_127 ?_
      refine tw_iload_n C dX11_goes_63 0 rfl ?_
      refine tw_iconst C dX11_goes_64 (v := nI 1) (by decide) ?_
      refine tw_iadd C dX11_goes_65 (v := nI (i + 1)) (nI_add _ _) ?_
      refine tw_iald (v := tw_A S1 131 (i + 1)) C dX11_goes_66 sn_131 sa_131 (hM 131 (by decide) (by decide)) (by omega) (by decide) rfl ?_
      refine tw_iast C dX11_goes_67 sn_131 sa_131 (hM 131 (by decide) (by decide)) (by omega) (by decide) ?_
      refine tw_iconst C dX11_goes_68 (v := nI 0) (by decide) ?_
      refine tw_istore_n (L' := [(3, .int (nI 0)), (2, .int (nI i)), (0, .ref (tw_ad G 114)), (1, .int (nI h))]) C N dX11_goes_69 rfl (by decide) rfl ?_
      refine TW.sS (wA_self _ 130).symm ?_
      refine TW.c (L' := [(3, .int (nI 0)), (2, .int (nI i)), (0, .ref (tw_ad G 114)), (1, .int (nI h))]) (by simp) ?_
      exact loopB 600 0 _ rfl mvd_0
  refine tw_iload_n C dX11_goes_0 1 rfl ?_
  refine tw_istore_n (L' := [(2, .int (nI h)), (0, .ref (tw_ad G 114)), (1, .int (nI h))]) C N dX11_goes_1 rfl (by decide) rfl ?_
  refine TW.c (L' := [(2, .int (nI h)), (0, .ref (tw_ad G 114)), (1, .int (nI h))]) (by simp) ?_
  exact loop (m - 1 - h) h S (by omega) (Nat.le_refl h) (by omega) (mHf_rf S) h34 (fun q hq => by rw [if_neg (by omega)]; exact rE_rf S q)
