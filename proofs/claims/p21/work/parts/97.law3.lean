theorem AW_1 {G GM : tw_G} {ah : Nat} {e : va_E} (h1 : ah ∉ tw_LA G) (h2 : ah ∉ tw_LA GM) : AW G GM [(ah, e)] := fun k q hk => by
  cases k with
  | zero =>
    have hq := Option.some.inj (show some (ah, e) = some q from hk)
    subst hq
    exact ⟨h1, h2⟩
  | succ k => cases hk
theorem putA_W {fs : List (List Nat)} (h : fs.length < 40) : putA W13 fs fs.length = (nI (fs.length + 1), fs ++ [W13]) := by
  unfold putA
  rw [if_neg (Nat.lt_irrefl _), if_neg (by decide), if_neg (Nat.lt_irrefl _), if_pos h]
theorem K0_f : ∀ i, kT K0 i = false := fun _ => rfl
theorem bf_0 : bf 0 = fun _ => false := by
  funext j
  simp [bf]
theorem bf_all {n : Nat} : ∀ k, k < n → bf n k = true := fun k hk => decide_eq_true hk
theorem gp_0 {fs : List (List Nat)} {x : List Nat} {j : Nat} (h : j < fs.length) : (fs ++ [x]).getD j [] = fs.getD j [] := by simp [List.getD_eq_getElem?_getD, List.getElem?_append_left h]
theorem gp_1 {fs : List (List Nat)} {x : List Nat} : (fs ++ [x]).getD fs.length [] = x := by simp [List.getD_eq_getElem?_getD]
theorem law_16 {G GM : tw_G} {X : tw_X} (hG : tw_cG G) (hM : tw_cG GM) (hdj : ∀ q, q ∈ tw_LA GM → q ∉ tw_LA G) (hll : tw_l GM = tw_l G) (C : tw_C G X cL_law RL) (CM : tw_C GM X cL_law RL) (NN : tw_N X 13 10 364) (hsn : tw_sn G ≤ 260) (hsm : tw_sn GM ≤ 260) (hsb : tw_sb GM = tw_sb G) (hly : lyA GM = lyA G) (hk1 : tx_k X + 1 ≤ (tx_R X).cells) (hk2 : tx_z X + 64 ≤ (tx_R X).slots) (kend : ∀ (Sc Sm : tw_S) (wl : va_W) (L : List (Nat × Value)), T3 G GM (txN X) Sc Sm wl L 609 [.int (nI 1)]) : T3 G GM X S0 S0 ([]) [(2, .ref (tw_ad GM 0)), (1, .ref (tw_ad G 0)), (0, .ref (tw_sb G))] 16 [] := by
  have hl0 := lyA_l G
  obtain ⟨fs, hcut, hn1, hn40, RV, FP, M⟩ := cut_MD (K := (kwN K0 (cN G 50))) (xs := lyA G) (size := 56 + (cN G 51 % 65)) (lyA_pk G) (by omega) (by omega) (by omega)
  have t276 : ∀ (mo : Bool) (Sc Sq : tw_S) (tpo tpq : List Nat) (fq : List (List Nat)), OS Sc (kwN K0 (cN G 50)) tpo fs fs.length RV FP true (bf fs.length) false → OS Sq (kwN K0 (cN G 50)) tpq fq fs.length RV FP false (fun _ => false) false → (∀ k, k < fs.length → fq.getD k [] = fs.getD k []) → fs.length ≤ fq.length → (mo = true → 1 < fs.length ∧ fq.getD fs.length [] = W13 ∧ fs.length < fq.length) → T3 G GM X Sc Sq ([]) [(3, .int (nI 1)), (7, .int (bI mo)), (6, .int (nI fs.length)), (4, .int (nI ((lyA G).length))), (2, .ref (tw_ad GM 0)), (1, .ref (tw_ad G 0)), (0, .ref (tw_sb G))] 276 [] := by
    intro mo Sc Sq tpo tpq fq hO hQ hfq hfl hmo
    refine t3_bipush C dL_law_276 (v := nI 64) (by decide) ?_
    refine t3_newa C wd_7 dL_law_278 hk1 hk2 (fun ah hah1 hah2 hah3 => ?_)
    have C := txN_C C
    have CM := txN_C CM
    have NN : tw_N (txN X) 13 10 364 := ⟨NN.1, NN.2.1, NN.2.2.1, hk1, hk2⟩
    refine t3_astore (L' := [(8, .ref ah), (3, .int (nI 1)), (7, .int (bI mo)), (6, .int (nI fs.length)), (4, .int (nI ((lyA G).length))), (2, .ref (tw_ad GM 0)), (1, .ref (tw_ad G 0)), (0, .ref (tw_sb G))]) C NN dL_law_280 (i := 8) (by decide) rfl ?_
    refine t3_iload C dL_law_282 3 rfl ?_
    refine t3_istore (L' := [(9, .int (nI fs.length)), (8, .ref ah), (3, .int (nI 1)), (7, .int (bI mo)), (6, .int (nI fs.length)), (4, .int (nI ((lyA G).length))), (2, .ref (tw_ad GM 0)), (1, .ref (tw_ad G 0)), (0, .ref (tw_sb G))]) C NN dL_law_284 (i := 9) (by decide) rfl ?_
    refine t3_iconst C dL_law_286 (v := nI 0) (by decide) ?_
    refine t3_istore (L' := [(10, .int (nI 0)), (9, .int (nI fs.length)), (8, .ref ah), (3, .int (nI 1)), (7, .int (bI mo)), (6, .int (nI fs.length)), (4, .int (nI ((lyA G).length))), (2, .ref (tw_ad GM 0)), (1, .ref (tw_ad G 0)), (0, .ref (tw_sb G))]) C NN dL_law_287 (i := 10) (by decide) rfl ?_
    have h289 := law_289 hG hM hdj hll C CM NN hsn hah1 hah2 hah3 (fun f => AW_1 hah1 hah2) M hn1 hn40 (show (lyA G).length ≤ 200 by omega) hO bf_all hfq hfl hmo kend 200 0 (fun _ => false) (fun _ => 0) Sq (by omega) (fun _ _ => rfl) (by rw [show (mo && decide (3 < 0)) = false by cases mo <;> rfl]; exact hQ) (fun j a b => absurd b (Nat.not_lt_zero _))
    rw [lfN_f] at h289
    exact T3.c (by simp) h289
  have t182 : ∀ (Sc Sq : tw_S), OS Sc (kwN K0 (cN G 50)) (lyA G) fs fs.length RV FP true (bf fs.length) false → CI Sq (kwN K0 (cN G 50)) (lyA G) [] fs (fun _ => 0) c00 0 0 0 0 0 → T3 G GM X Sc Sq ([]) [(6, .int (nI fs.length)), (4, .int (nI ((lyA G).length))), (3, .int (nI 1)), (2, .ref (tw_ad GM 0)), (1, .ref (tw_ad G 0)), (0, .ref (tw_sb G))] 182 [] := by
    intro Sc Sq hO hD3
    have t199 : T3 G GM X Sc Sq ([]) [(6, .int (nI fs.length)), (4, .int (nI ((lyA G).length))), (3, .int (nI 1)), (2, .ref (tw_ad GM 0)), (1, .ref (tw_ad G 0)), (0, .ref (tw_sb G))] 199 [] := by
      refine t3_iconst C dL_law_199 (v := nI 0) (by decide) ?_
      refine t3_istore (L' := [(7, .int (nI 0)), (6, .int (nI fs.length)), (4, .int (nI ((lyA G).length))), (3, .int (nI 1)), (2, .ref (tw_ad GM 0)), (1, .ref (tw_ad G 0)), (0, .ref (tw_sb G))]) C NN dL_law_200 (i := 7) (by decide) rfl ?_
      refine t3_iload_n C dL_law_202 3 rfl ?_
      refine t3n_if_eq C dL_law_203 (tgt := 274) (by decide) (by omega) (fun c1 => ?_) (fun c1 => ?_)
      · exact absurd c1 (by decide)
      refine t3_iload C dL_law_206 0 rfl ?_
      refine t3n_if_eq C dL_law_208 (tgt := 270) (by decide) (by omega) (fun c2 => ?_) (fun c2 => ?_)
      · skip
        refine t3_iconst C dL_law_270 (v := nI 1) (by decide) ?_
        refine t3_goto C dL_law_271 (tgt := 275) (by decide) ?_
        refine t3_istore_n (L' := [(3, .int (nI 1)), (7, .int (nI 0)), (6, .int (nI fs.length)), (4, .int (nI ((lyA G).length))), (2, .ref (tw_ad GM 0)), (1, .ref (tw_ad G 0)), (0, .ref (tw_sb G))]) C NN dL_law_275 rfl (by decide) rfl ?_
        exact t276 false Sc Sq _ _ fs hO ⟨[], fun _ => 0, c00, 0, 0, 0, 0, hD3, M.2.2.2.2.2.1 c00 (fun i => ⟨rfl, rfl, rfl⟩), (fun e => by cases e), Or.inl ⟨rfl, 0, by omega, rfl⟩⟩ (fun k hk => rfl) (Nat.le_refl _) (fun e => by cases e)
      · exact absurd c2 (by decide)
    refine t3_iload C dL_law_182 0 rfl ?_
    refine t3_bipush C dL_law_184 (v := nI 40) (by decide) ?_
    refine t3n_icmp_ge C dL_law_186 (tgt := 199) (by decide) (by omega) (by omega) (fun c1 => ?_) (fun c1 => ?_)
    · skip
      exact t199
    · skip
      refine t3_iload C dL_law_189 0 rfl ?_
      refine t3_iconst C dL_law_191 (v := nI 1) (by decide) ?_
      refine t3n_icmp_le C dL_law_192 (tgt := 199) (by decide) (by omega) (by omega) (fun c2 => ?_) (fun c2 => ?_)
      · skip
        exact t199
      · skip
        refine t3_iconst C dL_law_195 (v := nI 1) (by decide) ?_
        refine t3_goto C dL_law_196 (tgt := 200) (by decide) ?_
        refine t3_istore (L' := [(7, .int (nI 1)), (6, .int (nI fs.length)), (4, .int (nI ((lyA G).length))), (3, .int (nI 1)), (2, .ref (tw_ad GM 0)), (1, .ref (tw_ad G 0)), (0, .ref (tw_sb G))]) C NN dL_law_200 (i := 7) (by decide) rfl ?_
        refine t3_iload_n C dL_law_202 3 rfl ?_
        refine t3n_if_eq C dL_law_203 (tgt := 274) (by decide) (by omega) (fun c3 => ?_) (fun c3 => ?_)
        · exact absurd c3 (by decide)
        refine t3_iload C dL_law_206 0 rfl ?_
        refine t3n_if_eq C dL_law_208 (tgt := 270) (by decide) (by omega) (fun c4 => ?_) (fun c4 => ?_)
        · exact absurd c4 (by decide)
        refine t3_aload_n C dL_law_211 4 rfl ?_
        refine t3_iconst C dL_law_212 (v := nI 0) (by decide) ?_
        refine t3_callVM (As := [.int (nI 0)]) (rest := []) hdj hll (AW_0 G GM) CM NN (c_X10_cut hM (S := Sq) hD3 (i := 0) (by decide) (by omega)) mm_X10_cut wd_557 rfl (hM 0 (by decide)) sh_0 rfl (by decide) rfl (Nat.le_of_ble_eq_true rfl) dL_law_213 ?_
        intro v Sq4 hp
        show T3 G GM X Sc Sq4 ([]) [(7, .int (nI 1)), (6, .int (nI fs.length)), (4, .int (nI ((lyA G).length))), (3, .int (nI 1)), (2, .ref (tw_ad GM 0)), (1, .ref (tw_ad G 0)), (0, .ref (tw_sb G))] 216 [.int v]
        rw [if_pos (Nat.zero_le _)] at hp
        obtain ⟨hv, hD4⟩ := hp
        refine T3.ti (y := nI ((lyA G).length - 0)) hv ?_
        refine t3n_if_lt C dL_law_216 (tgt := 274) (by decide) (by omega) (fun c5 => ?_) (fun c5 => ?_)
        · exact absurd c5 id
        refine t3_aload_n C dL_law_219 4 rfl ?_
        refine t3_ldc2 C dL_law_220 wd_4 (w := lN 3763339272) (by decide) ?_
        refine t3_iconst C dL_law_223 (v := nI 4) (by decide) ?_
        refine t3_callVM (As := [.long (lN 3763339272), .int (nI 4)]) (rest := []) hdj hll (AW_0 G GM) CM NN (c_X10_type hM (S := Sq4) hD4 (i := 4) (by decide) (u := 3763339272) (by decide)) mm_X10_type wd_187 rfl (hM 0 (by decide)) sh_0 rfl (by decide) rfl (Nat.le_of_ble_eq_true rfl) dL_law_224 ?_
        intro v Sq5 hp
        show T3 G GM X Sc Sq5 ([]) [(7, .int (nI 1)), (6, .int (nI fs.length)), (4, .int (nI ((lyA G).length))), (3, .int (nI 1)), (2, .ref (tw_ad GM 0)), (1, .ref (tw_ad G 0)), (0, .ref (tw_sb G))] 227 [.int v]
        rw [if_pos (by decide), if_pos (by simp [be_len])] at hp
        obtain ⟨hv, hD5⟩ := hp
        refine T3.ti (y := nI 4) (hv.trans (congrArg nI (by simp [be_len]))) ?_
        refine t3_iconst C dL_law_227 (v := nI 4) (by decide) ?_
        refine t3n_icmp_ne C dL_law_228 (tgt := 274) (by decide) (by omega) (by omega) (fun c6 => ?_) (fun c6 => ?_)
        · exact absurd c6 (by decide)
        refine t3_aload_n C dL_law_231 4 rfl ?_
        refine t3_ldc2 C dL_law_232 wd_5 (w := lN 21491745540) (by decide) ?_
        refine t3_iconst C dL_law_235 (v := nI 5) (by decide) ?_
        refine t3_callVM (As := [.long (lN 21491745540), .int (nI 5)]) (rest := []) hdj hll (AW_0 G GM) CM NN (c_X10_type hM (S := Sq5) hD5 (i := 5) (by decide) (u := 21491745540) (by decide)) mm_X10_type wd_187 rfl (hM 0 (by decide)) sh_0 rfl (by decide) rfl (Nat.le_of_ble_eq_true rfl) dL_law_236 ?_
        intro v Sq6 hp
        show T3 G GM X Sc Sq6 ([]) [(7, .int (nI 1)), (6, .int (nI fs.length)), (4, .int (nI ((lyA G).length))), (3, .int (nI 1)), (2, .ref (tw_ad GM 0)), (1, .ref (tw_ad G 0)), (0, .ref (tw_sb G))] 239 [.int v]
        rw [if_pos (by decide), if_pos (by simp [be_len])] at hp
        obtain ⟨hv, hD6⟩ := hp
        refine T3.ti (y := nI 9) (hv.trans (congrArg nI (by simp [be_len]))) ?_
        refine t3_bipush C dL_law_239 (v := nI 9) (by decide) ?_
        refine t3n_icmp_ne C dL_law_241 (tgt := 274) (by decide) (by omega) (by omega) (fun c7 => ?_) (fun c7 => ?_)
        · exact absurd c7 (by decide)
        refine t3_aload_n C dL_law_244 4 rfl ?_
        refine t3_ldc2 C dL_law_245 wd_6 (w := lN 84281096) (by decide) ?_
        refine t3_iconst C dL_law_248 (v := nI 4) (by decide) ?_
        refine t3_callVM (As := [.long (lN 84281096), .int (nI 4)]) (rest := []) hdj hll (AW_0 G GM) CM NN (c_X10_type hM (S := Sq6) hD6 (i := 4) (by decide) (u := 84281096) (by decide)) mm_X10_type wd_187 rfl (hM 0 (by decide)) sh_0 rfl (by decide) rfl (Nat.le_of_ble_eq_true rfl) dL_law_249 ?_
        intro v Sq7 hp
        show T3 G GM X Sc Sq7 ([]) [(7, .int (nI 1)), (6, .int (nI fs.length)), (4, .int (nI ((lyA G).length))), (3, .int (nI 1)), (2, .ref (tw_ad GM 0)), (1, .ref (tw_ad G 0)), (0, .ref (tw_sb G))] 252 [.int v]
        rw [if_pos (by decide), if_pos (by simp [be_len])] at hp
        obtain ⟨hv, hD7⟩ := hp
        rw [W13_of] at hD7
        refine T3.ti (y := nI 13) (hv.trans (congrArg nI (by simp [be_len]))) ?_
        refine t3_bipush C dL_law_252 (v := nI 13) (by decide) ?_
        refine t3n_icmp_ne C dL_law_254 (tgt := 274) (by decide) (by omega) (by omega) (fun c8 => ?_) (fun c8 => ?_)
        · exact absurd c8 (by decide)
        refine t3_aload_n C dL_law_257 4 rfl ?_
        refine t3_iload C dL_law_258 1 rfl ?_
        refine t3_callVM (As := [.int (nI fs.length)]) (rest := []) hdj hll (AW_0 G GM) CM NN (c_X10_put hM (S := Sq7) hD7 (k := fs.length) (by omega) (by decide)) mm_X10_put wd_562 rfl (hM 0 (by decide)) sh_0 rfl (by decide) rfl (Nat.le_of_ble_eq_true rfl) dL_law_260 ?_
        intro v Sq8 hp
        show T3 G GM X Sc Sq8 ([]) [(7, .int (nI 1)), (6, .int (nI fs.length)), (4, .int (nI ((lyA G).length))), (3, .int (nI 1)), (2, .ref (tw_ad GM 0)), (1, .ref (tw_ad G 0)), (0, .ref (tw_sb G))] 263 [.int v]
        rw [putA_W (by omega)] at hp
        obtain ⟨hv, hD8⟩ := hp
        refine T3.ti (y := nI (fs.length + 1)) hv ?_
        refine t3_iload C dL_law_263 1 rfl ?_
        refine t3_iconst C dL_law_265 (v := nI 1) (by decide) ?_
        refine t3_iadd C dL_law_266 (v := nI (fs.length + 1)) (nI_add _ _) ?_
        refine t3n_icmp_ne C dL_law_267 (tgt := 274) (by decide) (by omega) (by omega) (fun c9 => ?_) (fun c9 => ?_)
        · exact absurd rfl c9
        refine t3_iconst C dL_law_270 (v := nI 1) (by decide) ?_
        refine t3_goto C dL_law_271 (tgt := 275) (by decide) ?_
        refine t3_istore_n (L' := [(3, .int (nI 1)), (7, .int (nI 1)), (6, .int (nI fs.length)), (4, .int (nI ((lyA G).length))), (2, .ref (tw_ad GM 0)), (1, .ref (tw_ad G 0)), (0, .ref (tw_sb G))]) C NN dL_law_275 rfl (by decide) rfl ?_
        exact t276 true Sc Sq8 _ _ (fs ++ [W13]) hO ⟨[], fun _ => 0, c00, 0, 0, 0, 0, hD8, M.2.2.2.2.2.1 c00 (fun i => ⟨rfl, rfl, rfl⟩), (fun e => by cases e), Or.inl ⟨rfl, 0, by omega, rfl⟩⟩ (fun k hk => gp_0 hk) (by rw [List.length_append]; exact Nat.le_add_right _ _) (fun _ => ⟨by omega, gp_1, by rw [List.length_append]; exact Nat.lt_succ_self _⟩)
  have loop1 : ∀ (d k : Nat) (Sc Sq : tw_S), k + d = fs.length → OS Sc (kwN K0 (cN G 50)) (lyA G) fs fs.length RV FP true (bf k) false → CI Sq (kwN K0 (cN G 50)) (lyA G) [] fs (fun _ => 0) c00 0 0 0 0 0 → T3 G GM X Sc Sq ([]) [(7, .int (nI k)), (6, .int (nI fs.length)), (5, .int (nI (56 + (cN G 51 % 65)))), (4, .int (nI ((lyA G).length))), (3, .int (nI 1)), (2, .ref (tw_ad GM 0)), (1, .ref (tw_ad G 0)), (0, .ref (tw_sb G))] 136 [] := by
    intro d
    induction d with
    | zero =>
      intro k Sc Sq hk hO hD3
      have hkn : k = fs.length := by omega
      subst hkn
      refine t3_iload C dL_law_136 0 rfl ?_
      refine t3_iload C dL_law_138 1 rfl ?_
      refine t3n_icmp_ge C dL_law_140 (tgt := 182) (by decide) (by omega) (by omega) (fun c1 => ?_) (fun c1 => ?_)
      · skip
        exact T3.c (by simp) (t182 Sc Sq hO hD3)
      · exact absurd c1 (by omega)
    | succ d ih =>
      intro k Sc Sq hk hO hD3
      obtain ⟨ot, T, c, wh, dr, la, an, hCo, hR, hd, hw⟩ := hO
      refine T3.wf (fun hwc _ => ?_)
      refine t3_iload C dL_law_136 0 rfl ?_
      refine t3_iload C dL_law_138 1 rfl ?_
      refine t3n_icmp_ge C dL_law_140 (tgt := 182) (by decide) (by omega) (by omega) (fun c1 => ?_) (fun c1 => ?_)
      · exact absurd c1 (by omega)
      refine t3_iload_n C dL_law_143 4 rfl ?_
      refine t3n_if_eq C dL_law_144 (tgt := 174) (by decide) (by omega) (fun c2 => ?_) (fun c2 => ?_)
      · exact absurd c2 (by decide)
      refine t3_aload_n C dL_law_147 6 rfl ?_
      refine t3_iload C dL_law_148 0 rfl ?_
      refine t3_callV (As := [.int (nI k)]) (rest := []) hdj hll (AW_0 G GM) C NN (c_X10_hear hG (S := Sc) hCo (k := k) (by omega) (by decide) (M.2.2.2.2.2.2.1 _ _ _ hR) (wf_fb hG hwc hCo)) mm_X10_hear wd_333 rfl (hG 0 (by decide)) sh_0 rfl (by decide) rfl (Nat.le_of_ble_eq_true rfl) dL_law_150 ?_
      intro v Sc2 hp
      show T3 G GM X Sc2 Sq ([]) [(7, .int (nI k)), (6, .int (nI fs.length)), (5, .int (nI (56 + (cN G 51 % 65)))), (4, .int (nI ((lyA G).length))), (3, .int (nI 1)), (2, .ref (tw_ad GM 0)), (1, .ref (tw_ad G 0)), (0, .ref (tw_sb G))] 153 [.int v]
      obtain ⟨hQ2, hvv⟩ := OS_new M (by omega) (show k < fs.length by omega) rfl (by omega) (show bf k k = false from decide_eq_false (Nat.lt_irrefl k)) hR hd hw hp
      rw [bf_up] at hQ2 hvv
      rcases hvv with ⟨hv, k2, a2, b2⟩ | ⟨hv, hal⟩
      · have hne : ¬ k + 1 = fs.length := by
          have := of_decide_eq_false (show decide (k2 < k + 1) = false from b2)
          omega
        refine T3.ti (y := nI 1) hv ?_
        refine t3_iload C dL_law_153 0 rfl ?_
        refine t3_iconst C dL_law_155 (v := nI 1) (by decide) ?_
        refine t3_iadd C dL_law_156 (v := nI (k + 1)) (nI_add _ _) ?_
        refine t3_iload C dL_law_157 1 rfl ?_
        refine t3n_icmp_ne C dL_law_159 (tgt := 166) (by decide) (by omega) (by omega) (fun c3 => ?_) (fun c3 => ?_)
        · skip
          refine t3_iconst C dL_law_166 (v := nI 1) (by decide) ?_
          refine t3n_icmp_ne C dL_law_167 (tgt := 174) (by decide) (by omega) (by omega) (fun c4 => ?_) (fun c4 => ?_)
          · exact absurd c4 (by decide)
          refine t3_iconst C dL_law_170 (v := nI 1) (by decide) ?_
          refine t3_goto C dL_law_171 (tgt := 175) (by decide) ?_
          refine t3_istore_n (L' := [(3, .int (nI 1)), (7, .int (nI k)), (6, .int (nI fs.length)), (5, .int (nI (56 + (cN G 51 % 65)))), (4, .int (nI ((lyA G).length))), (2, .ref (tw_ad GM 0)), (1, .ref (tw_ad G 0)), (0, .ref (tw_sb G))]) C NN dL_law_175 rfl (by decide) rfl ?_
          refine t3_iinc (k := 1) (v := nI (k + 1)) (L' := [(7, .int (nI (k + 1))), (3, .int (nI 1)), (6, .int (nI fs.length)), (5, .int (nI (56 + (cN G 51 % 65)))), (4, .int (nI ((lyA G).length))), (2, .ref (tw_ad GM 0)), (1, .ref (tw_ad G 0)), (0, .ref (tw_sb G))]) C NN dL_law_176 rfl (tn_inc1 _) (by decide) rfl ?_
          refine t3_goto C dL_law_179 (tgt := 136) (by decide) ?_
          exact T3.c (by simp) (ih (k + 1) Sc2 Sq (by omega) hQ2 hD3)
        · exact absurd c3 (by omega)
      · have hne : k + 1 = fs.length := by
          have := of_decide_eq_true (show decide (fs.length - 1 < k + 1) = true from hal (fs.length - 1) (by omega))
          omega
        refine T3.ti (y := nI 2) hv ?_
        refine t3_iload C dL_law_153 0 rfl ?_
        refine t3_iconst C dL_law_155 (v := nI 1) (by decide) ?_
        refine t3_iadd C dL_law_156 (v := nI (k + 1)) (nI_add _ _) ?_
        refine t3_iload C dL_law_157 1 rfl ?_
        refine t3n_icmp_ne C dL_law_159 (tgt := 166) (by decide) (by omega) (by omega) (fun c5 => ?_) (fun c5 => ?_)
        · exact absurd c5 (by omega)
        refine t3_iconst C dL_law_162 (v := nI 2) (by decide) ?_
        refine t3_goto C dL_law_163 (tgt := 167) (by decide) ?_
        refine t3n_icmp_ne C dL_law_167 (tgt := 174) (by decide) (by omega) (by omega) (fun c6 => ?_) (fun c6 => ?_)
        · exact absurd c6 (by decide)
        refine t3_iconst C dL_law_170 (v := nI 1) (by decide) ?_
        refine t3_goto C dL_law_171 (tgt := 175) (by decide) ?_
        refine t3_istore_n (L' := [(3, .int (nI 1)), (7, .int (nI k)), (6, .int (nI fs.length)), (5, .int (nI (56 + (cN G 51 % 65)))), (4, .int (nI ((lyA G).length))), (2, .ref (tw_ad GM 0)), (1, .ref (tw_ad G 0)), (0, .ref (tw_sb G))]) C NN dL_law_175 rfl (by decide) rfl ?_
        refine t3_iinc (k := 1) (v := nI (k + 1)) (L' := [(7, .int (nI (k + 1))), (3, .int (nI 1)), (6, .int (nI fs.length)), (5, .int (nI (56 + (cN G 51 % 65)))), (4, .int (nI ((lyA G).length))), (2, .ref (tw_ad GM 0)), (1, .ref (tw_ad G 0)), (0, .ref (tw_sb G))]) C NN dL_law_176 rfl (tn_inc1 _) (by decide) rfl ?_
        refine t3_goto C dL_law_179 (tgt := 136) (by decide) ?_
        exact T3.c (by simp) (ih (k + 1) Sc2 Sq (by omega) hQ2 hD3)
  refine t3_aload_n C dL_law_16 1 rfl ?_
  refine t3_aload_n C dL_law_17 2 rfl ?_
  refine t3_bipush C dL_law_18 (v := nI 50) (by decide) ?_
  refine t3_callS (As := [.ref (tw_sb G), .int (nI 50)]) (rest := [.ref (tw_ad G 0)]) hdj hll (AW_0 G GM) C NN (c_L_cell hsn (S := S0) (k := 50) (by omega)) mm_L_cell wd_106 rfl (by decide) rfl (Nat.le_of_ble_eq_true rfl) dL_law_20 ?_
  rintro _ _ ⟨rfl, rfl⟩
  show T3 G GM X S0 S0 ([]) [(2, .ref (tw_ad GM 0)), (1, .ref (tw_ad G 0)), (0, .ref (tw_sb G))] 23 [.int (nI (cN G 50)), .ref (tw_ad G 0)]
  refine t3_callS (As := [.ref (tw_ad G 0), .int (nI (cN G 50))]) (rest := []) hdj hll (AW_0 G GM) C NN (c_L_knows hG (S := S0) CI_0 K0_f (cN_lt G 50)) mm_L_knows wd_112 rfl (by decide) rfl (Nat.le_of_ble_eq_true rfl) dL_law_23 ?_
  rintro _ So1 ⟨rfl, hC1⟩
  show T3 G GM X So1 S0 ([]) [(2, .ref (tw_ad GM 0)), (1, .ref (tw_ad G 0)), (0, .ref (tw_sb G))] 26 [.int (nI 1)]
  refine t3n_if_eq C dL_law_26 (tgt := 46) (by decide) (by omega) (fun c1 => ?_) (fun c1 => ?_)
  · exact absurd c1 (by decide)
  refine t3_aload_n C dL_law_29 0 rfl ?_
  refine t3_aload_n C dL_law_30 2 rfl ?_
  refine t3_bipush C dL_law_31 (v := nI 50) (by decide) ?_
  refine t3_callS (As := [.ref (tw_sb G), .int (nI 50)]) (rest := [.ref (tw_ad GM 0)]) hdj hll (AW_0 G GM) C NN (c_L_cell hsn (S := So1) (k := 50) (by omega)) mm_L_cell wd_106 rfl (by decide) rfl (Nat.le_of_ble_eq_true rfl) dL_law_33 ?_
  rintro _ _ ⟨rfl, rfl⟩
  show T3 G GM X So1 S0 ([]) [(2, .ref (tw_ad GM 0)), (1, .ref (tw_ad G 0)), (0, .ref (tw_sb G))] 36 [.int (nI (cN G 50)), .ref (tw_ad GM 0)]
  refine t3_callSM (As := [.ref (tw_ad GM 0), .int (nI (cN G 50))]) (rest := []) hdj hll (AW_0 G GM) CM NN (c_L_knows hM (S := S0) CI_0 K0_f (cN_lt G 50)) mm_L_knows wd_112 rfl (by decide) rfl (Nat.le_of_ble_eq_true rfl) dL_law_36 ?_
  rintro _ Sq1 ⟨rfl, hD1⟩
  show T3 G GM X So1 Sq1 ([]) [(2, .ref (tw_ad GM 0)), (1, .ref (tw_ad G 0)), (0, .ref (tw_sb G))] 39 [.int (nI 1)]
  refine t3n_if_eq C dL_law_39 (tgt := 46) (by decide) (by omega) (fun c2 => ?_) (fun c2 => ?_)
  · exact absurd c2 (by decide)
  refine t3_iconst C dL_law_42 (v := nI 1) (by decide) ?_
  refine t3_goto C dL_law_43 (tgt := 47) (by decide) ?_
  refine t3_istore_n (L' := [(3, .int (nI 1)), (2, .ref (tw_ad GM 0)), (1, .ref (tw_ad G 0)), (0, .ref (tw_sb G))]) C NN dL_law_47 rfl (by decide) rfl ?_
  refine t3_aload_n C dL_law_48 2 rfl ?_
  refine t3_aload_n C dL_law_49 3 rfl ?_
  refine t3_sipush C dL_law_50 (v := nI 160) (by decide) ?_
  refine t3_callS (As := [.ref (tw_ad G 0), .ref (tw_sb G), .int (nI 160)]) (rest := []) hdj hll (AW_0 G GM) C NN (c_L_lays hG hsn (S := So1) hC1) mm_L_lays wd_141 rfl (by decide) rfl (Nat.le_of_ble_eq_true rfl) dL_law_53 ?_
  rintro _ So2 ⟨rfl, hC2⟩
  show T3 G GM X So2 Sq1 ([]) [(3, .int (nI 1)), (2, .ref (tw_ad GM 0)), (1, .ref (tw_ad G 0)), (0, .ref (tw_sb G))] 56 [.int (nI ((lyA G).length))]
  refine t3_istore (L' := [(4, .int (nI ((lyA G).length))), (3, .int (nI 1)), (2, .ref (tw_ad GM 0)), (1, .ref (tw_ad G 0)), (0, .ref (tw_sb G))]) C NN dL_law_56 (i := 4) (by decide) rfl ?_
  refine t3_iload_n C dL_law_58 1 rfl ?_
  refine t3n_if_eq C dL_law_59 (tgt := 79) (by decide) (by omega) (fun c3 => ?_) (fun c3 => ?_)
  · exact absurd c3 (by decide)
  refine t3_aload_n C dL_law_62 2 rfl ?_
  refine t3_aload_n C dL_law_63 4 rfl ?_
  refine t3_sipush C dL_law_64 (v := nI 160) (by decide) ?_
  refine t3_callSM (As := [.ref (tw_ad GM 0), .ref (tw_sb G), .int (nI 160)]) (rest := []) hdj hll (AW_0 G GM) CM NN (by have h0 := c_L_lays hM hsm (S := Sq1) hD1; rw [hsb, hly] at h0; exact h0) mm_L_lays wd_141 rfl (by decide) rfl (Nat.le_of_ble_eq_true rfl) dL_law_67 ?_
  rintro _ Sq2 ⟨rfl, hD2⟩
  show T3 G GM X So2 Sq2 ([]) [(4, .int (nI ((lyA G).length))), (3, .int (nI 1)), (2, .ref (tw_ad GM 0)), (1, .ref (tw_ad G 0)), (0, .ref (tw_sb G))] 70 [.int (nI ((lyA G).length))]
  refine t3_iload C dL_law_70 0 rfl ?_
  refine t3n_icmp_ne C dL_law_72 (tgt := 79) (by decide) (by omega) (by omega) (fun c4 => ?_) (fun c4 => ?_)
  · exact absurd rfl c4
  refine t3_iconst C dL_law_75 (v := nI 1) (by decide) ?_
  refine t3_goto C dL_law_76 (tgt := 80) (by decide) ?_
  refine t3_istore_n (L' := [(3, .int (nI 1)), (4, .int (nI ((lyA G).length))), (2, .ref (tw_ad GM 0)), (1, .ref (tw_ad G 0)), (0, .ref (tw_sb G))]) C NN dL_law_80 rfl (by decide) rfl ?_
  refine t3_bipush C dL_law_81 (v := nI 56) (by decide) ?_
  refine t3_aload_n C dL_law_83 4 rfl ?_
  refine t3_bipush C dL_law_84 (v := nI 51) (by decide) ?_
  refine t3_callS (As := [.ref (tw_sb G), .int (nI 51)]) (rest := [.int (nI 56)]) hdj hll (AW_0 G GM) C NN (c_L_cell hsn (S := So2) (k := 51) (by omega)) mm_L_cell wd_106 rfl (by decide) rfl (Nat.le_of_ble_eq_true rfl) dL_law_86 ?_
  rintro _ _ ⟨rfl, rfl⟩
  show T3 G GM X So2 Sq2 ([]) [(3, .int (nI 1)), (4, .int (nI ((lyA G).length))), (2, .ref (tw_ad GM 0)), (1, .ref (tw_ad G 0)), (0, .ref (tw_sb G))] 89 [.int (nI (cN G 51)), .int (nI 56)]
  refine t3_bipush C dL_law_89 (v := nI 65) (by decide) ?_
  refine t3_irem C dL_law_91 (by decide) (v := nI ((cN G 51) % 65)) (pk_rem (by have := cN_lt G 51; omega) (by omega) (by omega)) ?_
  refine t3_iadd C dL_law_92 (v := nI (56 + ((cN G 51) % 65))) (nI_add _ _) ?_
  refine t3_istore (L' := [(5, .int (nI (56 + ((cN G 51) % 65)))), (3, .int (nI 1)), (4, .int (nI ((lyA G).length))), (2, .ref (tw_ad GM 0)), (1, .ref (tw_ad G 0)), (0, .ref (tw_sb G))]) C NN dL_law_93 (i := 5) (by decide) rfl ?_
  refine t3_aload_n C dL_law_95 4 rfl ?_
  refine t3_iload C dL_law_96 0 rfl ?_
  refine t3_bipush C dL_law_98 (v := nI 7) (by decide) ?_
  refine t3_callV (As := [.int (nI (56 + ((cN G 51) % 65))), .int (nI 7)]) (rest := []) hdj hll (AW_0 G GM) C NN (c_X10_slice hG (S := So2) hC2 (i := 56 + (cN G 51 % 65)) (by omega) (g := 7) (by decide)) mm_X10_slice wd_191 rfl (hG 0 (by decide)) sh_0 rfl (by decide) rfl (Nat.le_of_ble_eq_true rfl) dL_law_100 ?_
  intro v So3 hp
  show T3 G GM X So3 Sq2 ([]) [(5, .int (nI (56 + ((cN G 51) % 65)))), (3, .int (nI 1)), (4, .int (nI ((lyA G).length))), (2, .ref (tw_ad GM 0)), (1, .ref (tw_ad G 0)), (0, .ref (tw_sb G))] 103 [.int v]
  rw [if_pos ⟨by omega, by omega, by decide⟩, if_pos ((isPkB_iff _).mpr (lyA_pk G)), hcut] at hp
  obtain ⟨hv, hC3⟩ := hp
  refine T3.ti (y := nI fs.length) hv ?_
  refine t3_istore (L' := [(6, .int (nI fs.length)), (5, .int (nI (56 + ((cN G 51) % 65)))), (3, .int (nI 1)), (4, .int (nI ((lyA G).length))), (2, .ref (tw_ad GM 0)), (1, .ref (tw_ad G 0)), (0, .ref (tw_sb G))]) C NN dL_law_103 (i := 6) (by decide) rfl ?_
  refine t3_iload_n C dL_law_105 2 rfl ?_
  refine t3n_if_eq C dL_law_106 (tgt := 131) (by decide) (by omega) (fun c5 => ?_) (fun c5 => ?_)
  · exact absurd c5 (by decide)
  refine t3_iload C dL_law_109 0 rfl ?_
  refine t3n_if_le C dL_law_111 (tgt := 131) (by decide) (by omega) (fun c6 => ?_) (fun c6 => ?_)
  · exact absurd c6 (by omega)
  refine t3_aload_n C dL_law_114 4 rfl ?_
  refine t3_iload C dL_law_115 1 rfl ?_
  refine t3_bipush C dL_law_117 (v := nI 7) (by decide) ?_
  refine t3_callVM (As := [.int (nI (56 + ((cN G 51) % 65))), .int (nI 7)]) (rest := []) hdj hll (AW_0 G GM) CM NN (c_X10_slice hM (S := Sq2) hD2 (i := 56 + (cN G 51 % 65)) (by omega) (g := 7) (by decide)) mm_X10_slice wd_191 rfl (hM 0 (by decide)) sh_0 rfl (by decide) rfl (Nat.le_of_ble_eq_true rfl) dL_law_119 ?_
  intro v Sq3 hp
  show T3 G GM X So3 Sq3 ([]) [(6, .int (nI fs.length)), (5, .int (nI (56 + ((cN G 51) % 65)))), (3, .int (nI 1)), (4, .int (nI ((lyA G).length))), (2, .ref (tw_ad GM 0)), (1, .ref (tw_ad G 0)), (0, .ref (tw_sb G))] 122 [.int v]
  rw [if_pos ⟨by omega, by omega, by decide⟩, if_pos ((isPkB_iff _).mpr (lyA_pk G)), hcut] at hp
  obtain ⟨hv, hD3⟩ := hp
  refine T3.ti (y := nI fs.length) hv ?_
  refine t3_iload C dL_law_122 0 rfl ?_
  refine t3n_icmp_ne C dL_law_124 (tgt := 131) (by decide) (by omega) (by omega) (fun c7 => ?_) (fun c7 => ?_)
  · exact absurd rfl c7
  refine t3_iconst C dL_law_127 (v := nI 1) (by decide) ?_
  refine t3_goto C dL_law_128 (tgt := 132) (by decide) ?_
  refine t3_istore_n (L' := [(3, .int (nI 1)), (6, .int (nI fs.length)), (5, .int (nI (56 + ((cN G 51) % 65)))), (4, .int (nI ((lyA G).length))), (2, .ref (tw_ad GM 0)), (1, .ref (tw_ad G 0)), (0, .ref (tw_sb G))]) C NN dL_law_132 rfl (by decide) rfl ?_
  refine t3_iconst C dL_law_133 (v := nI 0) (by decide) ?_
  refine t3_istore (L' := [(7, .int (nI 0)), (3, .int (nI 1)), (6, .int (nI fs.length)), (5, .int (nI (56 + ((cN G 51) % 65)))), (4, .int (nI ((lyA G).length))), (2, .ref (tw_ad GM 0)), (1, .ref (tw_ad G 0)), (0, .ref (tw_sb G))]) C NN dL_law_134 (i := 7) (by decide) rfl ?_
  refine T3.c (L' := [(7, .int (nI 0)), (6, .int (nI fs.length)), (5, .int (nI (56 + (cN G 51 % 65)))), (4, .int (nI ((lyA G).length))), (3, .int (nI 1)), (2, .ref (tw_ad GM 0)), (1, .ref (tw_ad G 0)), (0, .ref (tw_sb G))]) (by simp) ?_
  exact loop1 fs.length 0 So3 Sq3 (by omega) (by rw [bf_0]; exact ⟨[], fun _ => 0, c00, 0, 0, 0, 0, hC3, M.2.2.2.2.2.1 c00 (fun i => ⟨rfl, rfl, rfl⟩), (fun _ => rfl), Or.inl ⟨rfl, 0, by omega, rfl⟩⟩) hD3
