/-! the model slices -/
def FA (f z : Nat → Int32) (fs : List (List Nat)) : Prop := ∀ k, k < fs.length → z k = nI (fs.getD k []).length ∧ ∀ i, i < (fs.getD k []).length → f (120 * k + i) = nI ((fs.getD k []).getD i 0)
theorem FU_FU (B : tw_S) (f z g y : Nat → Int32) : FU (FU B f z) g y = FU B g y := by
  simp only [FU, tw_wA, Prod.mk.injEq, true_and, and_true]
  funext q j
  by_cases h : q = 126 <;> by_cases h2 : q = 125 <;> simp [h, h2]
theorem FU_uI (B : tw_S) (f z : Nat → Int32) (k : Nat) (x : Int32) : tw_uI (FU B f z) 114 k x = FU (tw_uI B 114 k x) f z := rfl
theorem gDp {fs : List (List Nat)} {x : List Nat} {j : Nat} : (fs ++ [x]).getD j [] = if j < fs.length then fs.getD j [] else if j = fs.length then x else [] := by
  by_cases h : j < fs.length
  · rw [if_pos h]; exact getD_app h
  · rw [if_neg h]
    by_cases h2 : j = fs.length
    · subst h2; rw [if_pos rfl]; exact getD_push
    · rw [if_neg h2, getD_out (by rw [List.length_append, List.length_singleton]; omega)]
theorem FA_push {B : tw_S} {f z g y : Nat → Int32} {fs : List (List Nat)} {x : List Nat} (h : FA f z fs) (hl : ∀ k, k < fs.length → (fs.getD k []).length ≤ 120) (b : FB (FU B f z) fs.length g y x) : FA g y (fs ++ [x]) := by
  intro k hk
  rw [List.length_append, List.length_singleton] at hk
  rw [gDp]
  by_cases h2 : k < fs.length
  · rw [if_pos h2]
    have h3 := hl k h2
    exact ⟨(b.2.2.1 k (by omega)).trans (h k h2).1, fun i hi => (b.2.2.2 (120 * k + i) (by omega)).trans ((h k h2).2 i hi)⟩
  · have h4 : k = fs.length := by omega
    subst h4
    rw [if_neg h2, if_pos rfl]
    exact ⟨b.1, b.2.1⟩
theorem MI_FA {S : tw_S} {K : kN} {tp ot : List Nat} {fr : List (List Nat)} {T : Nat → Int32} {hl : List mE} {ck wh dr la an : Nat} {fs : List (List Nat)} {f z : Nat → Int32} (h : MI S K tp ot fr T hl ck wh dr la an) (g : FA f z fs) (h40 : fs.length ≤ 40) : MI (FU (tw_uI S 114 32 (nI fs.length)) f z) K tp ot fs T hl ck wh dr la an := ⟨h.1, h.2.1, h.2.2.1, ⟨h40, rfl, g⟩, h.2.2.2.2⟩
theorem FA_1 {B : tw_S} {g y : Nat → Int32} {x : List Nat} (b : FB B 0 g y x) : FA g y [x] := by
  intro k hk
  have hk : k = 0 := Nat.lt_one_iff.mp hk
  subst hk
  exact ⟨b.1, b.2.1⟩
theorem cutD_s0 {xs : List Nat} {j : Nat} : cutD xs 0 j ++ [xs.getD j 0] = cutD xs 0 (j + 1) := by rw [cutD_succ, Nat.zero_add]
theorem sqTr_b {tf t l x : Nat} (ht : t < 256) (h : x ∈ sqTr tf t l) : x < 256 := by
  have hn : sqTn t < 256 := by unfold sqTn; omega
  unfold sqTr at h
  split at h
  · rcases List.mem_cons.mp h with rfl | h
    · exact hn
    · exact be_lt h
  · split at h
    · exact be_lt h
    · split at h
      · rcases List.mem_singleton.mp h with rfl
        exact hn
      · exact absurd h (by simp)
theorem sqAd_b {m f l x : Nat} (h : x ∈ sqAd m f l) : x < 256 := by
  unfold sqAd at h
  split at h
  · rcases List.mem_append.mp h with h | h <;> exact be_lt h
  · split at h
    · rcases List.mem_cons.mp h with rfl | h
      · exact Nat.mod_lt _ (by decide)
      · exact be_lt h
    · exact be_lt h
theorem sqPo_b {a b c x : Nat} (h : x ∈ sqPo a b c) : x < 256 := by
  unfold sqPo at h
  rcases List.mem_append.mp h with h | h
  · split at h
    · simp only [List.mem_cons, List.not_mem_nil, or_false] at h
      rcases h with rfl | rfl <;> omega
    · split at h
      · rcases List.mem_cons.mp h with rfl | h
        · decide
        · rcases List.mem_append.mp h with h | h
          · exact be_lt h
          · rw [List.mem_singleton.mp h]; exact Nat.mod_lt _ (by decide)
      · split at h
        · rcases List.mem_cons.mp h with rfl | h
          · decide
          · rcases List.mem_cons.mp h with rfl | h
            · exact Nat.mod_lt _ (by decide)
            · exact be_lt h
        · rcases List.mem_cons.mp h with rfl | h
          · decide
          · rcases List.mem_append.mp h with h | h <;> exact be_lt h
  · exact be_lt h
theorem sqAll_b (K : kN) {tp : List Nat} (hb : ∀ x ∈ tp, x < 256) : ∀ x ∈ sqAll K tp, x < 256 := by
  intro x h
  have g3 := sqTF_lt (pkT tp) (pkL tp)
  have g4 := sqHL_lt (tp.getD 7 0)
  have g5 := sqB1_or _ g3 _ g4
  have g1 := mSrc_le K (nb tp 8 8) (nb tp 16 8)
  have g2 := (mGoal_le K (nb tp 24 8) (nb tp 32 8)).1
  have k1 := ctxN_lt K (mSrc K (nb tp 8 8) (nb tp 16 8)) (nb tp 8 8)
  have k2 := ctxN_lt K (mGoal K (nb tp 24 8) (nb tp 32 8)) (nb tp 24 8)
  have hT : pkT tp < 256 := Nat.mod_lt _ (by decide)
  unfold sqAll at h
  rcases List.mem_append.mp h with h | h
  · unfold sqHd at h
    dsimp only at h
    simp only [List.mem_append] at h
    rcases h with h | h | h | h | h | h | h | h | h
    · rw [List.mem_singleton.mp h]
      cases hasPB tp
      · exact g5.2.2.2
      · exact g5.2.2.1
    · rw [List.mem_singleton.mp h]
      unfold sqB2
      split <;> omega
    · split at h
      · exact absurd h (by simp)
      · rw [List.mem_singleton.mp h]; omega
    · exact sqTr_b hT h
    · split at h
      · exact absurd h (by simp)
      · rw [List.mem_singleton.mp h]; exact gD_lt hb 6
    · split at h
      · rw [List.mem_singleton.mp h]; exact gD_lt hb 7
      · exact absurd h (by simp)
    · exact sqAd_b h
    · exact sqAd_b h
    · split at h
      · exact sqPo_b h
      · exact absurd h (by simp)
  · unfold cutD at h
    obtain ⟨i, -, rfl⟩ := List.mem_map.mp h
    exact gD_lt hb _
theorem c_X11_begin2 {G : tw_G} (hM : tw_mG G) {S : tw_S} {k : Nat} (hk : k < 40) {a u t : Nat} (ha : a < 256) (hu : a * 256 + u < 65536) (hu2 : u < 65536) (ht : t < 65536) : tw_M G yX11_begin cX11_begin 5 none 1 22 [.ref (tw_ad G 114), .int (nI k), .int (nI a), .int (nI u), .int (nI t)] S ri_V (fun _ S' => ∃ g y, S' = FU S g y ∧ FB S k g y (be (a * 256 + u) 2 ++ be t 2)) := by
  refine tw_M.of (L := [(0, .ref (tw_ad G 114)), (1, .int (nI k)), (2, .int (nI a)), (3, .int (nI u)), (4, .int (nI t))]) (by decide) (Nat.le_of_ble_eq_true rfl) rfl (fun X C N Q => ?_)
  have C : tw_C G X cX11_begin RX11 := C
  refine TW.sS (S' := FU S (tw_A S 125) (tw_A S 126)) (FU_self S) ?_
  refine tw_aload_n C dX11_begin_0 0 rfl ?_
  refine tw_getR (q := 126) (k := 31) C dX11_begin_1 fc_X11 sh_114 (hM 114 (by decide) (by decide)) rfl (by decide) wd_122 ?_
  refine tw_iload_n C dX11_begin_4 1 rfl ?_
  refine tw_iconst C dX11_begin_5 (v := nI 0) (by decide) ?_
  refine tw_iast C dX11_begin_6 sn_126 sa_126 (hM 126 (by decide) (by decide)) (by omega) (by decide) ?_
  refine TW.sS (S' := FU S (tw_A S 125) (upd (tw_A S 126) k (nI 0))) (FU_uA6 _ _ _ _ _) ?_
  refine tw_aload_n C dX11_begin_7 0 rfl ?_
  refine tw_iload_n C dX11_begin_8 1 rfl ?_
  refine tw_iload_n C dX11_begin_9 2 rfl ?_
  refine tw_iload_n C dX11_begin_10 3 rfl ?_
  refine tw_bipush C dX11_begin_11 (v := nI 8) (by decide) ?_
  refine tw_ishr C dX11_begin_13 (v := nI (u / 256)) (nI_shr (by omega) 8 (by decide)) ?_
  refine tw_iadd C dX11_begin_14 (v := nI (a + (u / 256))) (nI_add _ _) ?_
  refine tw_callV (As := [.int (nI k), .int (nI (a + (u / 256)))]) (rest := []) C N (c_X11_addTo hM (B := S) (k := k) (f := (tw_A S 125)) (z := (upd (tw_A S 126) k (nI 0))) (xs := []) (FB_new S k) (by omega) (by first | omega | (simp only [List.length_append, List.length_take, List.length_cons, List.length_nil, cutD_len, be_len]; omega)) (b := a + (u / 256))) mm_X11_addTo wd_693 rfl (hM 114 (by decide) (by decide)) sh_114 rfl (by decide) rfl (Nat.le_of_ble_eq_true rfl) dX11_begin_15 ?_
  rintro _ _ ⟨g1, yg1, rfl, hg1⟩
  show TW G X (FU S g1 yg1) [(0, .ref (tw_ad G 114)), (1, .int (nI k)), (2, .int (nI a)), (3, .int (nI u)), (4, .int (nI t))] 18 []
  refine tw_aload_n C dX11_begin_18 0 rfl ?_
  refine tw_iload_n C dX11_begin_19 1 rfl ?_
  refine tw_iload_n C dX11_begin_20 3 rfl ?_
  refine tw_callV (As := [.int (nI k), .int (nI u)]) (rest := []) C N (c_X11_addTo hM (B := S) (k := k) (f := g1) (z := yg1) (xs := ([]) ++ [(a + (u / 256)) % 256]) hg1 (by omega) (by first | omega | (simp only [List.length_append, List.length_take, List.length_cons, List.length_nil, cutD_len, be_len]; omega)) (b := u)) mm_X11_addTo wd_693 rfl (hM 114 (by decide) (by decide)) sh_114 rfl (by decide) rfl (Nat.le_of_ble_eq_true rfl) dX11_begin_21 ?_
  rintro _ _ ⟨g3, yg3, rfl, hg3⟩
  show TW G X (FU S g3 yg3) [(0, .ref (tw_ad G 114)), (1, .int (nI k)), (2, .int (nI a)), (3, .int (nI u)), (4, .int (nI t))] 24 []
  refine tw_aload_n C dX11_begin_24 0 rfl ?_
  refine tw_iload_n C dX11_begin_25 1 rfl ?_
  refine tw_iload C dX11_begin_26 4 rfl ?_
  refine tw_bipush C dX11_begin_28 (v := nI 8) (by decide) ?_
  refine tw_ishr C dX11_begin_30 (v := nI (t / 256)) (nI_shr (by omega) 8 (by decide)) ?_
  refine tw_callV (As := [.int (nI k), .int (nI (t / 256))]) (rest := []) C N (c_X11_addTo hM (B := S) (k := k) (f := g3) (z := yg3) (xs := (([]) ++ [(a + (u / 256)) % 256]) ++ [u % 256]) hg3 (by omega) (by first | omega | (simp only [List.length_append, List.length_take, List.length_cons, List.length_nil, cutD_len, be_len]; omega)) (b := t / 256)) mm_X11_addTo wd_693 rfl (hM 114 (by decide) (by decide)) sh_114 rfl (by decide) rfl (Nat.le_of_ble_eq_true rfl) dX11_begin_31 ?_
  rintro _ _ ⟨g5, yg5, rfl, hg5⟩
  show TW G X (FU S g5 yg5) [(0, .ref (tw_ad G 114)), (1, .int (nI k)), (2, .int (nI a)), (3, .int (nI u)), (4, .int (nI t))] 34 []
  refine tw_aload_n C dX11_begin_34 0 rfl ?_
  refine tw_iload_n C dX11_begin_35 1 rfl ?_
  refine tw_iload C dX11_begin_36 4 rfl ?_
  refine tw_callV (As := [.int (nI k), .int (nI t)]) (rest := []) C N (c_X11_addTo hM (B := S) (k := k) (f := g5) (z := yg5) (xs := ((([]) ++ [(a + (u / 256)) % 256]) ++ [u % 256]) ++ [(t / 256) % 256]) hg5 (by omega) (by first | omega | (simp only [List.length_append, List.length_take, List.length_cons, List.length_nil, cutD_len, be_len]; omega)) (b := t)) mm_X11_addTo wd_693 rfl (hM 114 (by decide) (by decide)) sh_114 rfl (by decide) rfl (Nat.le_of_ble_eq_true rfl) dX11_begin_38 ?_
  rintro _ _ ⟨g7, yg7, rfl, hg7⟩
  show TW G X (FU S g7 yg7) [(0, .ref (tw_ad G 114)), (1, .int (nI k)), (2, .int (nI a)), (3, .int (nI u)), (4, .int (nI t))] 41 []
  exact tw_return (v := ()) C Q dX11_begin_41 rfl rfl ⟨_, _, rfl, by rw [← bg_eq (by omega) (by omega)]; exact hg7⟩
theorem c_X11_slice {G : tw_G} (hM : tw_mG G) {S : tw_S} {K : kN} {tp ot : List Nat} {fr : List (List Nat)} {T : Nat → Int32} {hl : List mE} {ck wh dr la an : Nat} (hI : MI S K tp ot fr T hl ck wh dr la an) {i : Nat} (hi : i < 2 ^ 32) {g : Nat} (hg : g < 2 ^ 32) (htb : ∀ x ∈ tp, x < 256) (htl : tp.length ≤ 640) : tw_M G yX11_slice cX11_slice 8 (some .int) 4 97 [.ref (tw_ad G 114), .int (nI i), .int (nI g)] S ri_I (fun v S' => if 40 ≤ i ∧ i ≤ 120 ∧ g ≤ 65535 then (if isPkB tp = true then v = slA (cutA (sqAll K tp) (sqHd K tp).length (pkH tp) tp i g) ∧ MI S' K tp ot (slF (cutA (sqAll K tp) (sqHd K tp).length (pkH tp) tp i g) fr) T hl ck wh dr la an else v = -2 ∧ S = S') else v = -1 ∧ S = S') := by
  refine tw_M.of (L := [(0, .ref (tw_ad G 114)), (1, .int (nI i)), (2, .int (nI g))]) (by decide) (Nat.le_of_ble_eq_true rfl) rfl (fun X C N Q => ?_)
  have C : tw_C G X cX11_slice RX11 := C
  have t37 : ∀ (S1 : tw_S) (_ : isPkB tp = true) (_ : 40 ≤ i ∧ i ≤ 120 ∧ g ≤ 65535) (_ : MI S1 K tp ot fr T hl ck wh dr la an) (_ : LA (tw_A S1 120) (sqAll K tp)) (_ : tw_I S1 114 8 = nI (sqAll K tp).length) (_ : tw_I S1 114 9 = nI (sqHd K tp).length) (_ : tw_I S1 114 10 = nI (pkH tp)), TW G X S1 [(0, .ref (tw_ad G 114)), (1, .int (nI i)), (2, .int (nI g))] 37 [] := by
    intro S1 hpk h3 hI1 hrow h8 h9 h10
    have h600 := ((isPkB_iff tp).mp hpk).2.1
    have h40 := ((isPkB_iff tp).mp hpk).1
    have hHd := sqHd_len K tp
    have hph := pkH_le h40
    have hAl := sqAll_len K h600
    have hAe : (sqAll K tp).length = (sqHd K tp).length + (tp.length - pkH tp) := by rw [sqAll, List.length_append, cutD_len]
    have sqB : ∀ j, (sqAll K tp).getD j 0 < 256 := gD_lt (sqAll_b K htb)
    have loop : 40 ≤ i ∧ i ≤ 120 ∧ g ≤ 65535 → ∀ (d : Nat) (fs : List (List Nat)) (q : Nat) (f z : Nat → Int32) (_ : fs.length + d = 40) (_ : FA f z fs) (_ : ∀ k, k < fs.length → (fs.getD k []).length ≤ 120) (_ : some (fs ++ cutR tp tp.length i g d q) = (cutA (sqAll K tp) (sqHd K tp).length (pkH tp) tp i g)) (_ : 1 ≤ fs.length) (_ : q < tp.length → 40 + 32 * (fs.length - 1) ≤ q) (_ : q ≤ 700), TW G X (FU (tw_uI S1 114 32 (nI fs.length)) f z) [(5, .int (nI q)), (3, .int (nI tp.length)), (0, .ref (tw_ad G 114)), (1, .int (nI i)), (2, .int (nI g))] 177 [] := by
      intro h3 d
      induction d with
      | zero =>
        intro fs q f z hd hA hfl hc hfs hq32 hq7
        refine tw_iload C dX11_slice_177 0 rfl ?_
        refine tw_iload_n C dX11_slice_179 1 rfl ?_
        refine tn_icmp_ge C dX11_slice_180 (tgt := 308) (by decide) (by omega) (by omega) (fun hq0 => ?_) (fun hq0 => ?_)
        · skip
          refine tw_aload_n C dX11_slice_308 2 rfl ?_
          refine tw_getI (v := nI fs.length) (k := 32) C dX11_slice_309 fc_X11 sh_114 (hM 114 (by decide) (by decide)) rfl (by decide) wd_692 rfl ?_
          exact tw_ireturn C Q dX11_slice_312 rfl rfl rfl (by rw [if_pos h3, if_pos hpk, ← hc, cutR_stop (by omega), List.append_nil]; exact ⟨rfl, MI_FA hI1 hA (by omega)⟩)
        · skip
          exfalso
          omega
      | succ d ih =>
        intro fs q f z hd hA hfl hc hfs hq32 hq7
        have hcE : q < tp.length → q < cutE tp.length i q ∧ cutE tp.length i q ≤ 700 ∧ cutE tp.length i q - q ≤ i - 5 ∧ (cutE tp.length i q < tp.length → q + 32 ≤ cutE tp.length i q) ∧ cutE tp.length i q ≤ tp.length := by unfold cutE; split <;> omega
        have t228 : q < tp.length → TW G X (FU (tw_uI S1 114 32 (nI fs.length)) f z) [(6, .int (nI (cutE tp.length i q - q))), (5, .int (nI q)), (3, .int (nI tp.length)), (0, .ref (tw_ad G 114)), (1, .int (nI i)), (2, .int (nI g))] 228 [] := by
          intro hq
          have hcE := hcE hq
          have hq32 := hq32 hq
          have hfs40 : fs.length < 40 := by omega
          have inner : ∀ (dj : Nat) (j : Nat) (f9 z9 : Nat → Int32) (_ : j + dj = cutE tp.length i q - q) (hF : FB (FU (tw_uI S1 114 32 (nI fs.length)) f z) fs.length f9 z9 (be (57344 + tp.length) 2 ++ be g 2 ++ [q / 8 % 256] ++ cutD tp q j)), TW G X (FU (FU (tw_uI S1 114 32 (nI fs.length)) f z) f9 z9) [(7, .int (nI j)), (6, .int (nI (cutE tp.length i q - q))), (5, .int (nI q)), (3, .int (nI tp.length)), (0, .ref (tw_ad G 114)), (1, .int (nI i)), (2, .int (nI g))] 257 [] := by
            intro dj
            induction dj with
            | zero =>
              intro j f9 z9 hj hF
              have hcl := cutD_len tp q j
              refine tw_iload C dX11_slice_257 0 rfl ?_
              refine tw_iload C dX11_slice_259 1 rfl ?_
              refine tn_icmp_ge C dX11_slice_261 (tgt := 288) (by decide) (by omega) (by omega) (fun c1 => ?_) (fun c1 => ?_)
              · skip
                refine tw_iload C dX11_slice_288 2 rfl ?_
                refine tw_iload C dX11_slice_290 1 rfl ?_
                refine tw_iadd C dX11_slice_292 (v := nI (q + (cutE tp.length i q - q))) (nI_add _ _) ?_
                refine tw_istore (L' := [(5, .int (nI (q + (cutE tp.length i q - q)))), (7, .int (nI j)), (6, .int (nI (cutE tp.length i q - q))), (3, .int (nI tp.length)), (0, .ref (tw_ad G 114)), (1, .int (nI i)), (2, .int (nI g))]) C N dX11_slice_293 (i := 5) (by decide) rfl ?_
                refine tw_aload_n C dX11_slice_295 4 rfl ?_
                refine tw_dup C dX11_slice_296 rfl ?_
                refine tw_getI (v := nI fs.length) (k := 32) C dX11_slice_297 fc_X11 sh_114 (hM 114 (by decide) (by decide)) rfl (by decide) wd_692 rfl ?_
                refine tw_iconst C dX11_slice_300 (v := nI 1) (by decide) ?_
                refine tw_iadd C dX11_slice_301 (v := nI (fs.length + 1)) (nI_add _ _) ?_
                refine tw_putI (k := 32) C dX11_slice_302 fc_X11 sh_114 (hM 114 (by decide) (by decide)) rfl (by decide) rfl wd_692 rfl rfl ?_
                refine TW.sS (S' := FU (tw_uI (FU (tw_uI S1 114 32 (nI fs.length)) f z) 114 32 (nI (fs.length + 1))) f9 z9) (FU_uI _ _ _ _ _) ?_
                refine tw_goto C dX11_slice_305 (tgt := 177) (by decide) ?_
                have hj9 : j = cutE tp.length i q - q := by omega
                have hB9 := FA_push hA hfl hF
                rw [FU_uI, uI_uI, FU_FU, ← show (fs ++ [be (57344 + tp.length) 2 ++ be g 2 ++ [q / 8 % 256] ++ cutD tp q j]).length = fs.length + 1 by rw [List.length_append]; rfl]
                refine TW.c (L' := [(5, .int (nI (cutE tp.length i q))), (3, .int (nI tp.length)), (0, .ref (tw_ad G 114)), (1, .int (nI i)), (2, .int (nI g))]) (by rw [show q + (cutE tp.length i q - q) = cutE tp.length i q by omega]; simp) ?_
                exact ih (fs ++ [be (57344 + tp.length) 2 ++ be g 2 ++ [q / 8 % 256] ++ cutD tp q j]) (cutE tp.length i q) _ _ (by rw [List.length_append, List.length_singleton]; omega) hB9 (fun k hk => by
                  rw [List.length_append, List.length_singleton] at hk
                  rw [gDp]
                  split
                  · rename_i h7; exact hfl k h7
                  · rw [if_pos (by omega)]; simp only [List.length_append, be_len, cutD_len, List.length_cons, List.length_nil]; omega) (by rw [← hc, cutR_go hq, List.append_assoc, hj9]; rfl) (by rw [List.length_append, List.length_singleton]; omega) (fun h7 => by rw [List.length_append, List.length_singleton]; omega) (by omega)
              · exact absurd c1 (by omega)
            | succ dj ihj =>
              intro j f9 z9 hj hF
              have hcl := cutD_len tp q j
              refine tw_iload C dX11_slice_257 0 rfl ?_
              refine tw_iload C dX11_slice_259 1 rfl ?_
              refine tn_icmp_ge C dX11_slice_261 (tgt := 288) (by decide) (by omega) (by omega) (fun c1 => ?_) (fun c1 => ?_)
              · exact absurd c1 (by omega)
              refine tw_aload_n C dX11_slice_264 4 rfl ?_
              refine tw_aload_n C dX11_slice_265 4 rfl ?_
              refine tw_getI (v := nI fs.length) (k := 32) C dX11_slice_266 fc_X11 sh_114 (hM 114 (by decide) (by decide)) rfl (by decide) wd_692 rfl ?_
              refine tw_aload_n C dX11_slice_269 4 rfl ?_
              refine tw_getR (q := 118) (k := 3) C dX11_slice_270 fc_X11 sh_114 (hM 114 (by decide) (by decide)) rfl (by decide) wd_114 ?_
              refine tw_iload C dX11_slice_273 2 rfl ?_
              refine tw_iload C dX11_slice_275 0 rfl ?_
              refine tw_iadd C dX11_slice_277 (v := nI (q + j)) (nI_add _ _) ?_
              refine tw_iald (v := nI (tp.getD (q + j) 0)) C dX11_slice_278 sn_118 sa_118 (hM 118 (by decide) (by decide)) (by omega) (by decide) (hI1.2.1.1 (q + j) (by omega)) ?_
              refine tw_callV (As := [.int (nI fs.length), .int (nI (tp.getD (q + j) 0))]) (rest := []) C N (c_X11_addTo hM (B := (FU (tw_uI S1 114 32 (nI fs.length)) f z)) (k := fs.length) (f := f9) (z := z9) (xs := be (57344 + tp.length) 2 ++ be g 2 ++ [q / 8 % 256] ++ cutD tp q j) hF (by omega) (by first | omega | (simp only [List.length_append, List.length_take, List.length_cons, List.length_nil, cutD_len, be_len]; omega)) (b := tp.getD (q + j) 0)) mm_X11_addTo wd_693 rfl (hM 114 (by decide) (by decide)) sh_114 rfl (by decide) rfl (Nat.le_of_ble_eq_true rfl) dX11_slice_279 ?_
              rintro _ _ ⟨g2, yg2, rfl, hg2⟩
              show TW G X (FU (FU (tw_uI S1 114 32 (nI fs.length)) f z) g2 yg2) [(7, .int (nI j)), (6, .int (nI (cutE tp.length i q - q))), (5, .int (nI q)), (3, .int (nI tp.length)), (0, .ref (tw_ad G 114)), (1, .int (nI i)), (2, .int (nI g))] 282 []
              refine tw_iinc (k := 0) (v := nI (j + 1)) (L' := [(7, .int (nI (j + 1))), (6, .int (nI (cutE tp.length i q - q))), (5, .int (nI q)), (3, .int (nI tp.length)), (0, .ref (tw_ad G 114)), (1, .int (nI i)), (2, .int (nI g))]) C N dX11_slice_282 rfl (tn_inc1 _) (by decide) rfl ?_
              refine tw_goto C dX11_slice_285 (tgt := 257) (by decide) ?_
              rw [gD_m htb, List.append_assoc, ← cutD_succ] at hg2
              refine TW.c (L' := [(7, .int (nI (j + 1))), (6, .int (nI (cutE tp.length i q - q))), (5, .int (nI q)), (3, .int (nI tp.length)), (0, .ref (tw_ad G 114)), (1, .int (nI i)), (2, .int (nI g))]) (by simp) ?_
              exact ihj (j + 1) g2 yg2 (by omega) hg2
          refine tw_aload_n C dX11_slice_228 3 rfl ?_
          refine tw_aload_n C dX11_slice_229 3 rfl ?_
          refine tw_getI (v := nI fs.length) (k := 32) C dX11_slice_230 fc_X11 sh_114 (hM 114 (by decide) (by decide)) rfl (by decide) wd_692 rfl ?_
          refine tw_sipush C dX11_slice_233 (v := nI 224) (by decide) ?_
          refine tw_iload_n C dX11_slice_236 2 rfl ?_
          refine tw_iload_n C dX11_slice_237 5 rfl ?_
          refine tw_callV (As := [.int (nI fs.length), .int (nI 224), .int (nI tp.length), .int (nI g)]) (rest := []) C N (c_X11_begin2 hM (S := FU (tw_uI S1 114 32 (nI fs.length)) f z) (k := fs.length) (by omega) (a := 224) (u := tp.length) (t := g) (by omega) (by omega) (by omega) (by omega)) mm_X11_begin wd_697 rfl (hM 114 (by decide) (by decide)) sh_114 rfl (by decide) rfl (Nat.le_of_ble_eq_true rfl) dX11_slice_238 ?_
          rintro _ _ ⟨g1, yg1, rfl, hg1⟩
          show TW G X (FU (FU (tw_uI S1 114 32 (nI fs.length)) f z) g1 yg1) [(6, .int (nI (cutE tp.length i q - q))), (5, .int (nI q)), (3, .int (nI tp.length)), (0, .ref (tw_ad G 114)), (1, .int (nI i)), (2, .int (nI g))] 241 []
          refine tw_aload_n C dX11_slice_241 3 rfl ?_
          refine tw_aload_n C dX11_slice_242 3 rfl ?_
          refine tw_getI (v := nI fs.length) (k := 32) C dX11_slice_243 fc_X11 sh_114 (hM 114 (by decide) (by decide)) rfl (by decide) wd_692 rfl ?_
          refine tw_iload C dX11_slice_246 1 rfl ?_
          refine tw_bipush C dX11_slice_248 (v := nI 8) (by decide) ?_
          refine tw_idiv C dX11_slice_250 (by decide) (v := nI (q / 8)) (pk_div (by omega) (by decide) (by decide)) ?_
          refine tw_callV (As := [.int (nI fs.length), .int (nI (q / 8))]) (rest := []) C N (c_X11_addTo hM (B := (FU (tw_uI S1 114 32 (nI fs.length)) f z)) (k := fs.length) (f := g1) (z := yg1) (xs := be (224 * 256 + tp.length) 2 ++ be g 2) hg1 (by omega) (by first | omega | (simp only [List.length_append, List.length_take, List.length_cons, List.length_nil, cutD_len, be_len]; omega)) (b := q / 8)) mm_X11_addTo wd_693 rfl (hM 114 (by decide) (by decide)) sh_114 rfl (by decide) rfl (Nat.le_of_ble_eq_true rfl) dX11_slice_251 ?_
          rintro _ _ ⟨g3, yg3, rfl, hg3⟩
          show TW G X (FU (FU (tw_uI S1 114 32 (nI fs.length)) f z) g3 yg3) [(6, .int (nI (cutE tp.length i q - q))), (5, .int (nI q)), (3, .int (nI tp.length)), (0, .ref (tw_ad G 114)), (1, .int (nI i)), (2, .int (nI g))] 254 []
          refine tw_iconst C dX11_slice_254 (v := nI 0) (by decide) ?_
          refine tw_istore (L' := [(7, .int (nI 0)), (6, .int (nI (cutE tp.length i q - q))), (5, .int (nI q)), (3, .int (nI tp.length)), (0, .ref (tw_ad G 114)), (1, .int (nI i)), (2, .int (nI g))]) C N dX11_slice_255 (i := 7) (by decide) rfl ?_
          have hF0 : FB (FU (tw_uI S1 114 32 (nI fs.length)) f z) fs.length g3 yg3 (be (57344 + tp.length) 2 ++ be g 2 ++ [q / 8 % 256] ++ cutD tp q 0) := by rw [show cutD tp q 0 = [] from rfl, List.append_nil]; exact hg3
          refine TW.c (L' := [(7, .int (nI 0)), (6, .int (nI (cutE tp.length i q - q))), (5, .int (nI q)), (3, .int (nI tp.length)), (0, .ref (tw_ad G 114)), (1, .int (nI i)), (2, .int (nI g))]) (by simp) ?_
          exact inner (cutE tp.length i q - q) 0 _ _ (by omega) hF0
        refine tw_iload C dX11_slice_177 0 rfl ?_
        refine tw_iload_n C dX11_slice_179 1 rfl ?_
        refine tn_icmp_ge C dX11_slice_180 (tgt := 308) (by decide) (by omega) (by omega) (fun hq0 => ?_) (fun hq0 => ?_)
        · skip
          refine tw_aload_n C dX11_slice_308 2 rfl ?_
          refine tw_getI (v := nI fs.length) (k := 32) C dX11_slice_309 fc_X11 sh_114 (hM 114 (by decide) (by decide)) rfl (by decide) wd_692 rfl ?_
          exact tw_ireturn C Q dX11_slice_312 rfl rfl rfl (by rw [if_pos h3, if_pos hpk, ← hc, cutR_stop (by omega), List.append_nil]; exact ⟨rfl, MI_FA hI1 hA (by omega)⟩)
        · have hq0 : q < tp.length := by omega
          refine tw_aload_n C dX11_slice_183 2 rfl ?_
          refine tw_getI (v := nI fs.length) (k := 32) C dX11_slice_184 fc_X11 sh_114 (hM 114 (by decide) (by decide)) rfl (by decide) wd_692 rfl ?_
          refine tw_bipush C dX11_slice_187 (v := nI 40) (by decide) ?_
          refine tn_icmp_ne C dX11_slice_189 (tgt := 200) (by decide) (by omega) (by omega) (fun c1 => ?_) (fun c1 => ?_)
          · skip
            refine tw_iload_n C dX11_slice_200 1 rfl ?_
            refine tw_iload C dX11_slice_201 0 rfl ?_
            refine tw_isub C dX11_slice_203 (v := nI (tp.length - q)) (pk_sub (by omega)) ?_
            refine tw_iload_n C dX11_slice_204 3 rfl ?_
            refine tw_iconst C dX11_slice_205 (v := nI 5) (by decide) ?_
            refine tw_isub C dX11_slice_206 (v := nI (i - 5)) (pk_sub (by omega)) ?_
            refine tn_icmp_gt C dX11_slice_207 (tgt := 217) (by decide) (by omega) (by omega) (fun c2 => ?_) (fun c2 => ?_)
            · skip
              refine tw_iload_n C dX11_slice_217 3 rfl ?_
              refine tw_iconst C dX11_slice_218 (v := nI 5) (by decide) ?_
              refine tw_isub C dX11_slice_219 (v := nI (i - 5)) (pk_sub (by omega)) ?_
              refine tw_bipush C dX11_slice_220 (v := nI 8) (by decide) ?_
              refine tw_idiv C dX11_slice_222 (by decide) (v := nI ((i - 5) / 8)) (pk_div (by omega) (by decide) (by decide)) ?_
              refine tw_bipush C dX11_slice_223 (v := nI 8) (by decide) ?_
              refine tw_imul C dX11_slice_225 (v := nI (((i - 5) / 8) * 8)) (pk_mul _ _) ?_
              refine tw_istore (L' := [(6, .int (nI (((i - 5) / 8) * 8))), (5, .int (nI q)), (3, .int (nI tp.length)), (0, .ref (tw_ad G 114)), (1, .int (nI i)), (2, .int (nI g))]) C N dX11_slice_226 (i := 6) (by decide) rfl ?_
              have he : cutE tp.length i q - q = ((i - 5) / 8) * 8 := by rw [cutE, if_neg (by omega)] <;> omega
              refine TW.c (L' := [(6, .int (nI (cutE tp.length i q - q))), (5, .int (nI q)), (3, .int (nI tp.length)), (0, .ref (tw_ad G 114)), (1, .int (nI i)), (2, .int (nI g))]) (by rw [he]; simp) ?_
              exact t228 hq0
            · skip
              refine tw_iload_n C dX11_slice_210 1 rfl ?_
              refine tw_iload C dX11_slice_211 0 rfl ?_
              refine tw_isub C dX11_slice_213 (v := nI (tp.length - q)) (pk_sub (by omega)) ?_
              refine tw_goto C dX11_slice_214 (tgt := 226) (by decide) ?_
              refine tw_istore (L' := [(6, .int (nI (tp.length - q))), (5, .int (nI q)), (3, .int (nI tp.length)), (0, .ref (tw_ad G 114)), (1, .int (nI i)), (2, .int (nI g))]) C N dX11_slice_226 (i := 6) (by decide) rfl ?_
              have he : cutE tp.length i q - q = tp.length - q := by rw [cutE, if_pos (by omega)] <;> omega
              refine TW.c (L' := [(6, .int (nI (cutE tp.length i q - q))), (5, .int (nI q)), (3, .int (nI tp.length)), (0, .ref (tw_ad G 114)), (1, .int (nI i)), (2, .int (nI g))]) (by rw [he]; simp) ?_
              exact t228 hq0
          · exfalso; have := hq32 hq0; omega
    have loop54 : 40 ≤ i ∧ i ≤ 120 ∧ g ≤ 65535 → (sqAll K tp).length ≤ i → ∀ (d : Nat) (j : Nat) (f z : Nat → Int32) (_ : j + d = (sqAll K tp).length) (hF : FB S1 0 f z (cutD (sqAll K tp) 0 j)), TW G X (FU S1 f z) [(3, .int (nI j)), (0, .ref (tw_ad G 114)), (1, .int (nI i)), (2, .int (nI g))] 54 [] := by
      intro h3 hle d
      induction d with
      | zero =>
        intro j f z hj hF
        have hcl := cutD_len (sqAll K tp) 0 j
        refine tw_iload_n C dX11_slice_54 0 rfl ?_
        refine tw_aload_n C dX11_slice_55 1 rfl ?_
        refine tw_getI (v := nI ((sqAll K tp).length)) (k := 8) C dX11_slice_56 fc_X11 sh_114 (hM 114 (by decide) (by decide)) rfl (by decide) wd_390 h8 ?_
        refine tn_icmp_ge C dX11_slice_59 (tgt := 79) (by decide) (by omega) (by omega) (fun c1 => ?_) (fun c1 => ?_)
        · skip
          refine tw_aload_n C dX11_slice_79 1 rfl ?_
          refine tw_iconst C dX11_slice_80 (v := nI 1) (by decide) ?_
          refine tw_putI (k := 32) C dX11_slice_81 fc_X11 sh_114 (hM 114 (by decide) (by decide)) rfl (by decide) rfl wd_692 rfl rfl ?_
          refine TW.sS (S' := FU (tw_uI S1 114 32 (nI 1)) f z) (FU_uI _ _ _ _ _) ?_
          refine tw_iconst C dX11_slice_84 (v := nI 1) (by decide) ?_
          exact tw_ireturn C Q dX11_slice_85 rfl rfl rfl (by
            have hj9 : j = (sqAll K tp).length := by omega
            subst hj9
            rw [cutD_all] at hF
            rw [if_pos h3, if_pos hpk, cutA, if_pos hle]
            exact ⟨rfl, MI_FA (fs := [(sqAll K tp)]) hI1 (FA_1 hF) (show 1 ≤ 40 by decide)⟩)
        · exact absurd c1 (by omega)
      | succ d ih =>
        intro j f z hj hF
        have hcl := cutD_len (sqAll K tp) 0 j
        refine tw_iload_n C dX11_slice_54 0 rfl ?_
        refine tw_aload_n C dX11_slice_55 1 rfl ?_
        refine tw_getI (v := nI ((sqAll K tp).length)) (k := 8) C dX11_slice_56 fc_X11 sh_114 (hM 114 (by decide) (by decide)) rfl (by decide) wd_390 h8 ?_
        refine tn_icmp_ge C dX11_slice_59 (tgt := 79) (by decide) (by omega) (by omega) (fun c1 => ?_) (fun c1 => ?_)
        · exact absurd c1 (by omega)
        refine tw_aload_n C dX11_slice_62 1 rfl ?_
        refine tw_iconst C dX11_slice_63 (v := nI 0) (by decide) ?_
        refine tw_aload_n C dX11_slice_64 1 rfl ?_
        refine tw_getR (q := 120) (k := 7) C dX11_slice_65 fc_X11 sh_114 (hM 114 (by decide) (by decide)) rfl (by decide) wd_116 ?_
        refine tw_iload_n C dX11_slice_68 0 rfl ?_
        refine tw_iald (v := nI ((sqAll K tp).getD j 0)) C dX11_slice_69 sn_120 sa_120 (hM 120 (by decide) (by decide)) (by omega) (by decide) (hrow j (by omega)) ?_
        refine tw_callV (As := [.int (nI 0), .int (nI ((sqAll K tp).getD j 0))]) (rest := []) C N (c_X11_addTo hM (B := S1) (k := 0) (f := f) (z := z) (xs := cutD (sqAll K tp) 0 j) hF (by omega) (by first | omega | (simp only [List.length_append, List.length_take, List.length_cons, List.length_nil, cutD_len, be_len]; omega)) (b := (sqAll K tp).getD j 0)) mm_X11_addTo wd_693 rfl (hM 114 (by decide) (by decide)) sh_114 rfl (by decide) rfl (Nat.le_of_ble_eq_true rfl) dX11_slice_70 ?_
        rintro _ _ ⟨g2, yg2, rfl, hg2⟩
        show TW G X (FU S1 g2 yg2) [(3, .int (nI j)), (0, .ref (tw_ad G 114)), (1, .int (nI i)), (2, .int (nI g))] 73 []
        refine tw_iinc (k := 0) (v := nI (j + 1)) (L' := [(3, .int (nI (j + 1))), (0, .ref (tw_ad G 114)), (1, .int (nI i)), (2, .int (nI g))]) C N dX11_slice_73 rfl (tn_inc1 _) (by decide) rfl ?_
        refine tw_goto C dX11_slice_76 (tgt := 54) (by decide) ?_
        rw [Nat.mod_eq_of_lt (sqB _), cutD_s0] at hg2
        refine TW.c (L' := [(3, .int (nI (j + 1))), (0, .ref (tw_ad G 114)), (1, .int (nI i)), (2, .int (nI g))]) (by simp) ?_
        exact ih (j + 1) g2 yg2 (by omega) hg2
    have loop133 : 40 ≤ i ∧ i ≤ 120 ∧ g ≤ 65535 → ¬ (sqAll K tp).length ≤ i → (sqHd K tp).length ≤ i - 4 → ∀ (d : Nat) (j : Nat) (f z : Nat → Int32) (_ : j + d = (sqHd K tp).length + ((i - 4) - (sqHd K tp).length) / 8 * 8) (hF : FB S1 0 f z (be (192 * 256 + tp.length) 2 ++ be g 2 ++ cutD (sqAll K tp) 0 j)), TW G X (FU S1 f z) [(5, .int (nI j)), (4, .int (nI (((i - 4) - (sqHd K tp).length) / 8 * 8))), (3, .int (nI tp.length)), (0, .ref (tw_ad G 114)), (1, .int (nI i)), (2, .int (nI g))] 133 [] := by
      intro h3 hgt hhd d
      induction d with
      | zero =>
        intro j f z hj hF
        have hcl := cutD_len (sqAll K tp) 0 j
        refine tw_iload C dX11_slice_133 0 rfl ?_
        refine tw_aload_n C dX11_slice_135 3 rfl ?_
        refine tw_getI (v := nI ((sqHd K tp).length)) (k := 9) C dX11_slice_136 fc_X11 sh_114 (hM 114 (by decide) (by decide)) rfl (by decide) wd_398 h9 ?_
        refine tw_iload C dX11_slice_139 1 rfl ?_
        refine tw_iadd C dX11_slice_141 (v := nI (((sqHd K tp).length) + (((i - 4) - (sqHd K tp).length) / 8 * 8))) (nI_add _ _) ?_
        refine tn_icmp_ge C dX11_slice_142 (tgt := 163) (by decide) (by omega) (by omega) (fun c1 => ?_) (fun c1 => ?_)
        · skip
          refine tw_aload_n C dX11_slice_163 3 rfl ?_
          refine tw_getI (v := nI (pkH tp)) (k := 10) C dX11_slice_164 fc_X11 sh_114 (hM 114 (by decide) (by decide)) rfl (by decide) wd_399 h10 ?_
          refine tw_iload C dX11_slice_167 1 rfl ?_
          refine tw_iadd C dX11_slice_169 (v := nI ((pkH tp) + (((i - 4) - (sqHd K tp).length) / 8 * 8))) (nI_add _ _) ?_
          refine tw_istore (L' := [(5, .int (nI ((pkH tp) + (((i - 4) - (sqHd K tp).length) / 8 * 8)))), (4, .int (nI (((i - 4) - (sqHd K tp).length) / 8 * 8))), (3, .int (nI tp.length)), (0, .ref (tw_ad G 114)), (1, .int (nI i)), (2, .int (nI g))]) C N dX11_slice_170 (i := 5) (by decide) rfl ?_
          refine tw_aload_n C dX11_slice_172 3 rfl ?_
          refine tw_iconst C dX11_slice_173 (v := nI 1) (by decide) ?_
          refine tw_putI (k := 32) C dX11_slice_174 fc_X11 sh_114 (hM 114 (by decide) (by decide)) rfl (by decide) rfl wd_692 rfl rfl ?_
          refine TW.sS (S' := FU (tw_uI S1 114 32 (nI 1)) f z) (FU_uI _ _ _ _ _) ?_
          have hj9 : j = (sqHd K tp).length + cutM (sqHd K tp).length i := by unfold cutM; omega
          refine TW.c (L' := [(5, .int (nI (pkH tp + cutM (sqHd K tp).length i))), (3, .int (nI tp.length)), (0, .ref (tw_ad G 114)), (1, .int (nI i)), (2, .int (nI g))]) (by simp [cutM]) ?_
          exact loop h3 39 [be (192 * 256 + tp.length) 2 ++ be g 2 ++ cutD (sqAll K tp) 0 j] (pkH tp + cutM (sqHd K tp).length i) _ _ rfl (FA_1 hF) (fun k hk => by
            have hk : k = 0 := Nat.lt_one_iff.mp hk
            subst hk
            show (be (192 * 256 + tp.length) 2 ++ be g 2 ++ cutD (sqAll K tp) 0 j).length ≤ 120
            simp only [List.length_append, be_len, cutD_len]; omega) (by rw [cutA, if_neg hgt, if_neg (by omega), hj9]; rfl) (Nat.le_refl 1) (fun _ => by show 40 + 32 * (1 - 1) ≤ _; omega) (by unfold cutM; omega)
        · exact absurd c1 (by omega)
      | succ d ih =>
        intro j f z hj hF
        have hcl := cutD_len (sqAll K tp) 0 j
        refine tw_iload C dX11_slice_133 0 rfl ?_
        refine tw_aload_n C dX11_slice_135 3 rfl ?_
        refine tw_getI (v := nI ((sqHd K tp).length)) (k := 9) C dX11_slice_136 fc_X11 sh_114 (hM 114 (by decide) (by decide)) rfl (by decide) wd_398 h9 ?_
        refine tw_iload C dX11_slice_139 1 rfl ?_
        refine tw_iadd C dX11_slice_141 (v := nI (((sqHd K tp).length) + (((i - 4) - (sqHd K tp).length) / 8 * 8))) (nI_add _ _) ?_
        refine tn_icmp_ge C dX11_slice_142 (tgt := 163) (by decide) (by omega) (by omega) (fun c1 => ?_) (fun c1 => ?_)
        · exact absurd c1 (by omega)
        refine tw_aload_n C dX11_slice_145 3 rfl ?_
        refine tw_iconst C dX11_slice_146 (v := nI 0) (by decide) ?_
        refine tw_aload_n C dX11_slice_147 3 rfl ?_
        refine tw_getR (q := 120) (k := 7) C dX11_slice_148 fc_X11 sh_114 (hM 114 (by decide) (by decide)) rfl (by decide) wd_116 ?_
        refine tw_iload C dX11_slice_151 0 rfl ?_
        refine tw_iald (v := nI ((sqAll K tp).getD j 0)) C dX11_slice_153 sn_120 sa_120 (hM 120 (by decide) (by decide)) (by omega) (by decide) (hrow j (by omega)) ?_
        refine tw_callV (As := [.int (nI 0), .int (nI ((sqAll K tp).getD j 0))]) (rest := []) C N (c_X11_addTo hM (B := S1) (k := 0) (f := f) (z := z) (xs := be (192 * 256 + tp.length) 2 ++ be g 2 ++ cutD (sqAll K tp) 0 j) hF (by omega) (by first | omega | (simp only [List.length_append, List.length_take, List.length_cons, List.length_nil, cutD_len, be_len]; omega)) (b := (sqAll K tp).getD j 0)) mm_X11_addTo wd_693 rfl (hM 114 (by decide) (by decide)) sh_114 rfl (by decide) rfl (Nat.le_of_ble_eq_true rfl) dX11_slice_154 ?_
        rintro _ _ ⟨g2, yg2, rfl, hg2⟩
        show TW G X (FU S1 g2 yg2) [(5, .int (nI j)), (4, .int (nI (((i - 4) - (sqHd K tp).length) / 8 * 8))), (3, .int (nI tp.length)), (0, .ref (tw_ad G 114)), (1, .int (nI i)), (2, .int (nI g))] 157 []
        refine tw_iinc (k := 0) (v := nI (j + 1)) (L' := [(5, .int (nI (j + 1))), (4, .int (nI (((i - 4) - (sqHd K tp).length) / 8 * 8))), (3, .int (nI tp.length)), (0, .ref (tw_ad G 114)), (1, .int (nI i)), (2, .int (nI g))]) C N dX11_slice_157 rfl (tn_inc1 _) (by decide) rfl ?_
        refine tw_goto C dX11_slice_160 (tgt := 133) (by decide) ?_
        rw [Nat.mod_eq_of_lt (sqB _), List.append_assoc, cutD_s0] at hg2
        refine TW.c (L' := [(5, .int (nI (j + 1))), (4, .int (nI (((i - 4) - (sqHd K tp).length) / 8 * 8))), (3, .int (nI tp.length)), (0, .ref (tw_ad G 114)), (1, .int (nI i)), (2, .int (nI g))]) (by simp) ?_
        exact ih (j + 1) g2 yg2 (by omega) hg2
    refine tw_aload_n C dX11_slice_37 0 rfl ?_
    refine tw_getI (v := nI ((sqAll K tp).length)) (k := 8) C dX11_slice_38 fc_X11 sh_114 (hM 114 (by decide) (by decide)) rfl (by decide) wd_390 h8 ?_
    refine tw_iload_n C dX11_slice_41 1 rfl ?_
    refine tn_icmp_gt C dX11_slice_42 (tgt := 86) (by decide) (by omega) (by omega) (fun hgt => ?_) (fun hgt => ?_)
    · have hgt : ¬ (sqAll K tp).length ≤ i := by omega
      refine tw_aload_n C dX11_slice_86 0 rfl ?_
      refine tw_getI (v := nI ((sqHd K tp).length)) (k := 9) C dX11_slice_87 fc_X11 sh_114 (hM 114 (by decide) (by decide)) rfl (by decide) wd_398 h9 ?_
      refine tw_iload_n C dX11_slice_90 1 rfl ?_
      refine tw_iconst C dX11_slice_91 (v := nI 4) (by decide) ?_
      refine tw_isub C dX11_slice_92 (v := nI (i - 4)) (pk_sub (by omega)) ?_
      refine tn_icmp_le C dX11_slice_93 (tgt := 99) (by decide) (by omega) (by omega) (fun hhd => ?_) (fun hhd => ?_)
      · skip
        refine tw_aload_n C dX11_slice_99 0 rfl ?_
        refine tw_getI (v := nI tp.length) (k := 4) C dX11_slice_100 fc_X11 sh_114 (hM 114 (by decide) (by decide)) rfl (by decide) wd_189 hI1.2.1.2 ?_
        refine tw_istore_n (L' := [(3, .int (nI tp.length)), (0, .ref (tw_ad G 114)), (1, .int (nI i)), (2, .int (nI g))]) C N dX11_slice_103 rfl (by decide) rfl ?_
        refine tw_iload_n C dX11_slice_104 2 rfl ?_
        refine tw_iconst C dX11_slice_105 (v := nI 4) (by decide) ?_
        refine tw_isub C dX11_slice_106 (v := nI (i - 4)) (pk_sub (by omega)) ?_
        refine tw_aload_n C dX11_slice_107 1 rfl ?_
        refine tw_getI (v := nI ((sqHd K tp).length)) (k := 9) C dX11_slice_108 fc_X11 sh_114 (hM 114 (by decide) (by decide)) rfl (by decide) wd_398 h9 ?_
        refine tw_isub C dX11_slice_111 (v := nI ((i - 4) - ((sqHd K tp).length))) (pk_sub (by omega)) ?_
        refine tw_bipush C dX11_slice_112 (v := nI 8) (by decide) ?_
        refine tw_idiv C dX11_slice_114 (by decide) (v := nI (((i - 4) - ((sqHd K tp).length)) / 8)) (pk_div (by omega) (by decide) (by decide)) ?_
        refine tw_bipush C dX11_slice_115 (v := nI 8) (by decide) ?_
        refine tw_imul C dX11_slice_117 (v := nI ((((i - 4) - ((sqHd K tp).length)) / 8) * 8)) (pk_mul _ _) ?_
        refine tw_istore (L' := [(4, .int (nI ((((i - 4) - ((sqHd K tp).length)) / 8) * 8))), (3, .int (nI tp.length)), (0, .ref (tw_ad G 114)), (1, .int (nI i)), (2, .int (nI g))]) C N dX11_slice_118 (i := 4) (by decide) rfl ?_
        refine tw_aload_n C dX11_slice_120 2 rfl ?_
        refine tw_iconst C dX11_slice_121 (v := nI 0) (by decide) ?_
        refine tw_sipush C dX11_slice_122 (v := nI 192) (by decide) ?_
        refine tw_iload_n C dX11_slice_125 1 rfl ?_
        refine tw_iload_n C dX11_slice_126 4 rfl ?_
        refine tw_callV (As := [.int (nI 0), .int (nI 192), .int (nI tp.length), .int (nI g)]) (rest := []) C N (c_X11_begin2 hM (S := S1) (k := 0) (by omega) (a := 192) (u := tp.length) (t := g) (by omega) (by omega) (by omega) (by omega)) mm_X11_begin wd_697 rfl (hM 114 (by decide) (by decide)) sh_114 rfl (by decide) rfl (Nat.le_of_ble_eq_true rfl) dX11_slice_127 ?_
        rintro _ _ ⟨g1, yg1, rfl, hg1⟩
        show TW G X (FU S1 g1 yg1) [(4, .int (nI ((((i - 4) - ((sqHd K tp).length)) / 8) * 8))), (3, .int (nI tp.length)), (0, .ref (tw_ad G 114)), (1, .int (nI i)), (2, .int (nI g))] 130 []
        refine tw_iconst C dX11_slice_130 (v := nI 0) (by decide) ?_
        refine tw_istore (L' := [(5, .int (nI 0)), (4, .int (nI ((((i - 4) - ((sqHd K tp).length)) / 8) * 8))), (3, .int (nI tp.length)), (0, .ref (tw_ad G 114)), (1, .int (nI i)), (2, .int (nI g))]) C N dX11_slice_131 (i := 5) (by decide) rfl ?_
        refine TW.c (L' := [(5, .int (nI 0)), (4, .int (nI (((i - 4) - (sqHd K tp).length) / 8 * 8))), (3, .int (nI tp.length)), (0, .ref (tw_ad G 114)), (1, .int (nI i)), (2, .int (nI g))]) (by simp) ?_
        exact loop133 h3 hgt hhd ((sqHd K tp).length + ((i - 4) - (sqHd K tp).length) / 8 * 8) 0 _ _ (by omega) (by rw [show cutD (sqAll K tp) 0 0 = [] from rfl, List.append_nil]; exact hg1)
      · skip
        refine tw_bipush C dX11_slice_96 (v := (-3)) (by decide) ?_
        exact tw_ireturn C Q dX11_slice_98 rfl rfl rfl (by rw [if_pos h3, if_pos hpk, cutA, if_neg hgt, if_pos (by omega)]; exact ⟨rfl, hI1⟩)
    · have hle : (sqAll K tp).length ≤ i := by omega
      refine TW.sS (S' := FU S1 (tw_A S1 125) (tw_A S1 126)) (FU_self S1) ?_
      refine tw_aload_n C dX11_slice_45 0 rfl ?_
      refine tw_getR (q := 126) (k := 31) C dX11_slice_46 fc_X11 sh_114 (hM 114 (by decide) (by decide)) rfl (by decide) wd_122 ?_
      refine tw_iconst C dX11_slice_49 (v := nI 0) (by decide) ?_
      refine tw_iconst C dX11_slice_50 (v := nI 0) (by decide) ?_
      refine tw_iast C dX11_slice_51 sn_126 sa_126 (hM 126 (by decide) (by decide)) (by omega) (by decide) ?_
      refine TW.sS (S' := FU S1 (tw_A S1 125) (upd (tw_A S1 126) 0 (nI 0))) (FU_uA6 _ _ _ _ _) ?_
      refine tw_iconst C dX11_slice_52 (v := nI 0) (by decide) ?_
      refine tw_istore_n (L' := [(3, .int (nI 0)), (0, .ref (tw_ad G 114)), (1, .int (nI i)), (2, .int (nI g))]) C N dX11_slice_53 rfl (by decide) rfl ?_
      refine TW.c (L' := [(3, .int (nI 0)), (0, .ref (tw_ad G 114)), (1, .int (nI i)), (2, .int (nI g))]) (by simp) ?_
      exact loop54 h3 hle (sqAll K tp).length 0 _ _ (by omega) (FB_new S1 0)
  refine tw_iload_n C dX11_slice_0 1 rfl ?_
  refine tw_bipush C dX11_slice_1 (v := nI 40) (by decide) ?_
  refine tw_bipush C dX11_slice_3 (v := nI 120) (by decide) ?_
  refine tw_callS (As := [.int (nI i), .int (nI 40), .int (nI 120)]) (rest := []) C N (c_X11_in1 (S := S) (v := i) (lo := 40) (hi := 120) (by omega) (by omega) (by omega)) mm_X11_in wd_135 rfl (by decide) rfl (Nat.le_of_ble_eq_true rfl) dX11_slice_5 ?_
  rintro _ _ ⟨rfl, rfl⟩
  show TW G X S [(0, .ref (tw_ad G 114)), (1, .int (nI i)), (2, .int (nI g))] 8 [.int (bI (decide (40 ≤ i ∧ i ≤ 120)))]
  refine tb_if_eq C dX11_slice_8 (tgt := 21) (by decide) (fun cg1 => ?_) (fun cg1 => ?_)
  · skip
    refine tw_iconst C dX11_slice_21 (v := (-1)) (by decide) ?_
    exact tw_ireturn C Q dX11_slice_22 rfl rfl rfl (by rw [if_neg (by intro h; first | exact of_decide_eq_false cg1 ⟨h.1, h.2.1⟩ | exact of_decide_eq_false cg2 ⟨Nat.zero_le _, h.2.2⟩)]; exact ⟨rfl, rfl⟩)
  · skip
    refine tw_iload_n C dX11_slice_11 2 rfl ?_
    refine tw_iconst C dX11_slice_12 (v := nI 0) (by decide) ?_
    refine tw_ldc C dX11_slice_13 wd_691 (w := nI 65535) (by decide) ?_
    refine tw_callS (As := [.int (nI g), .int (nI 0), .int (nI 65535)]) (rest := []) C N (c_X11_in1 (S := S) (v := g) (lo := 0) (hi := 65535) (by omega) (by omega) (by omega)) mm_X11_in wd_135 rfl (by decide) rfl (Nat.le_of_ble_eq_true rfl) dX11_slice_15 ?_
    rintro _ _ ⟨rfl, rfl⟩
    show TW G X S [(0, .ref (tw_ad G 114)), (1, .int (nI i)), (2, .int (nI g))] 18 [.int (bI (decide (0 ≤ g ∧ g ≤ 65535)))]
    refine tb_if_ne C dX11_slice_18 (tgt := 23) (by decide) (fun cg2 => ?_) (fun cg2 => ?_)
    · skip
      refine tw_aload_n C dX11_slice_23 0 rfl ?_
      refine tw_callV (As := []) (rest := []) C N (c_X11_isPacket hM (S := S) hI.2.1.1 htb htl hI.2.1.2) mm_X11_isPacket wd_382 rfl (hM 114 (by decide) (by decide)) sh_114 rfl (by decide) rfl (Nat.le_of_ble_eq_true rfl) dX11_slice_24 ?_
      rintro _ _ ⟨rfl, rfl⟩
      show TW G X S [(0, .ref (tw_ad G 114)), (1, .int (nI i)), (2, .int (nI g))] 27 [.int (bI (isPkB tp))]
      refine tb_if_ne C dX11_slice_27 (tgt := 33) (by decide) (fun hpk => ?_) (fun hpk => ?_)
      · skip
        refine tw_aload_n C dX11_slice_33 0 rfl ?_
        refine tw_callV (As := []) (rest := []) C N (c_X11_squeezeTape hM hI htb htl hpk) mm_X11_squeezeTape wd_386 rfl (hM 114 (by decide) (by decide)) sh_114 rfl (by decide) rfl (Nat.le_of_ble_eq_true rfl) dX11_slice_34 ?_
        rintro _ S1 ⟨hI1, hrow, h8, h9, h10⟩
        show TW G X S1 [(0, .ref (tw_ad G 114)), (1, .int (nI i)), (2, .int (nI g))] 37 []
        exact t37 S1 hpk ⟨(of_decide_eq_true cg1).1, (of_decide_eq_true cg1).2, (of_decide_eq_true cg2).2⟩ hI1 hrow h8 h9 h10
      · skip
        refine tw_bipush C dX11_slice_30 (v := (-2)) (by decide) ?_
        exact tw_ireturn C Q dX11_slice_32 rfl rfl rfl (by rw [if_pos ⟨(of_decide_eq_true cg1).1, (of_decide_eq_true cg1).2, (of_decide_eq_true cg2).2⟩, if_neg (by rw [hpk]; decide)]; exact ⟨rfl, rfl⟩)
    · skip
      refine tw_iconst C dX11_slice_21 (v := (-1)) (by decide) ?_
      exact tw_ireturn C Q dX11_slice_22 rfl rfl rfl (by rw [if_neg (by intro h; first | exact of_decide_eq_false cg1 ⟨h.1, h.2.1⟩ | exact of_decide_eq_false cg2 ⟨Nat.zero_le _, h.2.2⟩)]; exact ⟨rfl, rfl⟩)
