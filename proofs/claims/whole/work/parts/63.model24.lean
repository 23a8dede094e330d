/-! a frame is heard by the model -/
def PostQ (K : kN) (tp ot : List Nat) (fr : List (List Nat)) (T : Nat → Int32) (ck wh dr z t q : Nat) (ys : List Nat) (hl : List mE) (la an : Nat) (v : Int32) (S' : tw_S) : Prop :=
  if okPB z q ys.length = true then PostA K tp ot fr T ck wh dr z t q ys (mLt ck hl) (la + (hl.length - (mLt ck hl).length)) an v S'
  else v = nI 0 ∧ MI S' K tp ot fr T hl ck wh (dr + 1) la an
def PostH (K : kN) (tp ot : List Nat) (fr : List (List Nat)) (T : Nat → Int32) (hl : List mE) (ck wh dr la an : Nat) (fs : List Nat) (v : Int32) (S' : tw_S) : Prop :=
  if fs.getD 0 0 / 32 = 3 then (if (uF K fs 0 none).1 = 0 then v = nI 2 ∧ MI S' K tp (uPk K fs 0 none) fr T hl ck (wh + 1) dr la an else v = nI 0 ∧ MI S' K tp ot fr T hl ck wh (dr + 1) la an)
  else if fs.getD 0 0 / 8 = 24 ∧ 5 ≤ fs.length then
    (if 40 ≤ zF fs ∧ zF fs ≤ 600 ∧ (uF K (fs.drop 4) 0 (some (zF fs - 40))).1 = 0 then PostQ K tp ot fr T ck wh dr (zF fs) (tF fs) 0 (uPk K (fs.drop 4) 0 (some (zF fs - 40))) hl la an v S' else v = nI 0 ∧ MI S' K tp ot fr T hl ck wh (dr + 1) la an)
  else if fs.getD 0 0 / 8 = 28 ∧ 6 ≤ fs.length then PostQ K tp ot fr T ck wh dr (zF fs) (tF fs) (8 * fs.getD 4 0) (fs.drop 5) hl la an v S'
  else v = nI 0 ∧ MI S' K tp ot fr T hl ck wh (dr + 1) la an
theorem zF_or {fs : List Nat} (hb : ∀ x ∈ fs, x < 256) : nI (fs.getD 0 0 % 8 * 256) ||| nI (fs.getD 1 0) = nI (zF fs) := by
  rw [or_nb (gD_lt hb 1), zF, nb2]
  have := gD_lt hb 1
  congr 1
  simp only [Nat.zero_add]
  omega
theorem tF_or {fs : List Nat} (hb : ∀ x ∈ fs, x < 256) : nI (fs.getD 2 0 * 256) ||| nI (fs.getD 3 0) = nI (tF fs) := by
  rw [or_nb (gD_lt hb 3), tF, nb2]
theorem MI_pk {S : tw_S} {K : kN} {tp ot : List Nat} {fr : List (List Nat)} {T : Nat → Int32} {hl : List mE} {ck wh dr la an : Nat} {f : Nat → Int32} {x : Int32} (h : MI S K tp ot fr T hl ck wh dr la an) : MI (tw_wA (tw_uI S 114 24 x) 122 f) K tp ot fr T hl ck wh dr la an := h
theorem drop_b {fs : List Nat} {n : Nat} (h : ∀ x ∈ fs, x < 256) : ∀ x ∈ fs.drop n, x < 256 := fun x hx => h x (List.mem_of_mem_drop hx)
theorem okPB_f {z q m : Nat} (h : ¬ (40 ≤ z ∧ z ≤ 600 ∧ q + m ≤ z ∧ ((q + m) % 8 = 0 ∨ q + m = z))) : ¬ okPB z q m = true := fun g => by
  obtain ⟨h1, h2, h3, h4⟩ := okPB_iff.mp g
  exact h ⟨h1, h2, h3, h4⟩
theorem okPB_t {z q m : Nat} (h : 40 ≤ z ∧ z ≤ 600 ∧ q + m ≤ z ∧ ((q + m) % 8 = 0 ∨ q + m = z)) : okPB z q m = true := okPB_iff.mpr h
theorem c_X11_hear {G : tw_G} (hM : tw_mG G) {S : tw_S} {K : kN} {tp ot : List Nat} {fr : List (List Nat)} {T : Nat → Int32} {hl : List mE} {ck wh dr la an : Nat} (hI : MI S K tp ot fr T hl ck wh dr la an) {k : Nat} (hk : k < 2 ^ 32) (hfb : ∀ k, k < fr.length → (∀ x ∈ fr.getD k [], x < 256) ∧ (fr.getD k []).length ≤ 120) (hne : ∀ k, k < fr.length → 1 ≤ (fr.getD k []).length) (hw : ∀ e ∈ hl, eW e) (hnp : ∀ e ∈ hl, e.2.2.2.length + 1 < 100) (hzb : ∀ e ∈ hl, e.1 < 2 ^ 30 ∧ e.2.1 < 2 ^ 30) (htm : ∀ e ∈ hl, e.2.2.1 ≤ ck) (hck : ck < 2 ^ 30) : tw_M G yX11_hear cX11_hear 8 (some .int) 5 121 [.ref (tw_ad G 114), .int (nI k)] S ri_I (fun v S' => if k < fr.length then (PostH K tp ot fr T hl ck wh dr la an (fr.getD k [])) v S' else v = -1 ∧ S = S') := by
  refine tw_M.of (L := [(0, .ref (tw_ad G 114)), (1, .int (nI k))]) (by decide) (Nat.le_of_ble_eq_true rfl) rfl (fun X C N Q => ?_)
  have C : tw_C G X cX11_hear RX11 := C
  have t10 : k < fr.length → TW G X S [(0, .ref (tw_ad G 114)), (1, .int (nI k))] 10 [] := by
    intro hkl
    have hfb8 := (hfb k hkl).1
    have hfl := (hfb k hkl).2
    have hn1 := hne k hkl
    have hsz := (hI.2.2.2.1.2.2 k hkl).1
    have hfr := (hI.2.2.2.1.2.2 k hkl).2
    have hb0 := gD_lt hfb8 0
    have h40 := hI.2.2.2.1.1
    have hzlt : (zF (fr.getD k [])) < 2048 := Nat.mod_lt _ (by decide)
    have htlt : (tF (fr.getD k [])) < 65536 := nb_lt hfb8 2 2
    have t275 : ∀ (S1 : tw_S) (q : Nat) (ys : List Nat) (_ : ∀ v S', PostQ K tp ot fr T ck wh dr (zF (fr.getD k [])) (tF (fr.getD k [])) q ys hl la an v S' → (if k < fr.length then (PostH K tp ot fr T hl ck wh dr la an (fr.getD k [])) v S' else v = -1 ∧ S = S')) (_ : MI S1 K tp ot fr T hl ck wh dr la an) (_ : LA (tw_A S1 122) ys) (_ : tw_I S1 114 24 = nI ys.length) (_ : 40 ≤ (zF (fr.getD k []))) (_ : (zF (fr.getD k [])) ≤ 600) (_ : q ≤ 4000) (_ : ys.length ≤ 4000), TW G X S1 [(6, .int (nI q)), (5, .int (nI ((tF (fr.getD k []))))), (4, .int (nI ((zF (fr.getD k []))))), (0, .ref (tw_ad G 114))] 275 [] := by
      intro S1 q ys hpost hI1 hP1 h24 hz40 hz600 hq4 hy4
      refine tw_iload C dX11_hear_275 0 rfl ?_
      refine tw_aload_n C dX11_hear_277 3 rfl ?_
      refine tw_getI (v := nI ys.length) (k := 24) C dX11_hear_278 fc_X11 sh_114 (hM 114 (by decide) (by decide)) rfl (by decide) wd_637 h24 ?_
      refine tw_iadd C dX11_hear_281 (v := nI (q + ys.length)) (nI_add _ _) ?_
      refine tw_istore (L' := [(7, .int (nI (q + ys.length))), (6, .int (nI q)), (5, .int (nI ((tF (fr.getD k []))))), (4, .int (nI ((zF (fr.getD k []))))), (0, .ref (tw_ad G 114))]) C N dX11_hear_282 (i := 7) (by decide) rfl ?_
      refine tw_iload C dX11_hear_284 0 rfl ?_
      refine tw_iload C dX11_hear_286 3 rfl ?_
      refine tn_icmp_gt C dX11_hear_288 (tgt := 306) (by decide) (by omega) (by omega) (fun c1 => ?_) (fun c1 => ?_)
      · skip
        refine tw_aload_n C dX11_hear_306 4 rfl ?_
        refine tw_callV (As := []) (rest := []) C N (c_X11_drops hM hI1) mm_X11_drops wd_840 rfl (hM 114 (by decide) (by decide)) sh_114 rfl (by decide) rfl (Nat.le_of_ble_eq_true rfl) dX11_hear_307 ?_
        rintro _ S5 ⟨rfl, hI5⟩
        show TW G X S5 [(7, .int (nI (q + ys.length))), (6, .int (nI q)), (5, .int (nI ((tF (fr.getD k []))))), (4, .int (nI ((zF (fr.getD k []))))), (0, .ref (tw_ad G 114))] 310 [.int (nI 0)]
        exact tw_ireturn C Q dX11_hear_310 rfl rfl rfl (hpost _ _ (by rw [PostQ, if_neg (okPB_f (by omega))]; exact ⟨rfl, hI5⟩))
      · skip
        refine tw_iload C dX11_hear_291 0 rfl ?_
        refine tw_bipush C dX11_hear_293 (v := nI 8) (by decide) ?_
        refine tw_irem C dX11_hear_295 (by decide) (v := nI ((q + ys.length) % 8)) (pk_rem (by omega) (by decide) (by decide)) ?_
        refine tn_if_eq C dX11_hear_296 (tgt := 311) (by decide) (by omega) (fun c3 => ?_) (fun c3 => ?_)
        · skip
          refine tw_aload_n C dX11_hear_311 4 rfl ?_
          refine tw_iload C dX11_hear_312 3 rfl ?_
          refine tw_iload C dX11_hear_314 2 rfl ?_
          refine tw_iload C dX11_hear_316 1 rfl ?_
          refine tw_callV (As := [.int (nI ((zF (fr.getD k [])))), .int (nI ((tF (fr.getD k [])))), .int (nI q)]) (rest := []) C N (c_X11_hears hM hI1 (z := (zF (fr.getD k []))) (t := (tF (fr.getD k []))) (q := q) (ys := ys) hP1 h24 hw hnp hzb htm hck (by omega) (by omega) (by omega)) mm_X11_hears wd_845 rfl (hM 114 (by decide) (by decide)) sh_114 rfl (by decide) rfl (Nat.le_of_ble_eq_true rfl) dX11_hear_318 ?_
          rintro v9 S9 h9
          show TW G X S9 [(7, .int (nI (q + ys.length))), (6, .int (nI q)), (5, .int (nI ((tF (fr.getD k []))))), (4, .int (nI ((zF (fr.getD k []))))), (0, .ref (tw_ad G 114))] 321 [.int v9]
          exact tw_ireturn C Q dX11_hear_321 rfl rfl rfl (hpost _ _ (by rw [PostQ, if_pos (okPB_t ⟨by omega, by omega, by omega, by omega⟩)]; exact h9))
        · skip
          refine tw_iload C dX11_hear_299 0 rfl ?_
          refine tw_iload C dX11_hear_301 3 rfl ?_
          refine tn_icmp_eq C dX11_hear_303 (tgt := 311) (by decide) (by omega) (by omega) (fun c5 => ?_) (fun c5 => ?_)
          · skip
            refine tw_aload_n C dX11_hear_311 4 rfl ?_
            refine tw_iload C dX11_hear_312 3 rfl ?_
            refine tw_iload C dX11_hear_314 2 rfl ?_
            refine tw_iload C dX11_hear_316 1 rfl ?_
            refine tw_callV (As := [.int (nI ((zF (fr.getD k [])))), .int (nI ((tF (fr.getD k [])))), .int (nI q)]) (rest := []) C N (c_X11_hears hM hI1 (z := (zF (fr.getD k []))) (t := (tF (fr.getD k []))) (q := q) (ys := ys) hP1 h24 hw hnp hzb htm hck (by omega) (by omega) (by omega)) mm_X11_hears wd_845 rfl (hM 114 (by decide) (by decide)) sh_114 rfl (by decide) rfl (Nat.le_of_ble_eq_true rfl) dX11_hear_318 ?_
            rintro v9 S9 h9
            show TW G X S9 [(7, .int (nI (q + ys.length))), (6, .int (nI q)), (5, .int (nI ((tF (fr.getD k []))))), (4, .int (nI ((zF (fr.getD k []))))), (0, .ref (tw_ad G 114))] 321 [.int v9]
            exact tw_ireturn C Q dX11_hear_321 rfl rfl rfl (hpost _ _ (by rw [PostQ, if_pos (okPB_t ⟨by omega, by omega, by omega, by omega⟩)]; exact h9))
          · skip
            refine tw_aload_n C dX11_hear_306 4 rfl ?_
            refine tw_callV (As := []) (rest := []) C N (c_X11_drops hM hI1) mm_X11_drops wd_840 rfl (hM 114 (by decide) (by decide)) sh_114 rfl (by decide) rfl (Nat.le_of_ble_eq_true rfl) dX11_hear_307 ?_
            rintro _ S5 ⟨rfl, hI5⟩
            show TW G X S5 [(7, .int (nI (q + ys.length))), (6, .int (nI q)), (5, .int (nI ((tF (fr.getD k []))))), (4, .int (nI ((zF (fr.getD k []))))), (0, .ref (tw_ad G 114))] 310 [.int (nI 0)]
            exact tw_ireturn C Q dX11_hear_310 rfl rfl rfl (hpost _ _ (by rw [PostQ, if_neg (okPB_f (by omega))]; exact ⟨rfl, hI5⟩))
    have loop239 : ¬ (fr.getD k []).getD 0 0 / 32 = 3 → (fr.getD k []).getD 0 0 / 8 = 28 → 6 ≤ (fr.getD k []).length → 40 ≤ (zF (fr.getD k [])) → (zF (fr.getD k [])) ≤ 600 → ∀ (d : Nat) (i : Nat) (g : Nat → Int32) (_ : i + d = (fr.getD k []).length - 5) (hg : ∀ j, j < i → g j = nI (((fr.getD k []).drop 5).getD j 0)), TW G X (tw_wA (tw_uI S 114 24 (nI ((fr.getD k []).length - 5))) 122 g) [(7, .int (nI i)), (6, .int (nI (8 * (fr.getD k []).getD 4 0))), (5, .int (nI ((tF (fr.getD k []))))), (4, .int (nI ((zF (fr.getD k []))))), (0, .ref (tw_ad G 114)), (1, .int (nI k))] 239 [] := by
      intro c24 h28 hl6 hz40 hz600 d
      induction d with
      | zero =>
        intro i g hi hg
        refine tw_iload C dX11_hear_239 0 rfl ?_
        refine tw_aload_n C dX11_hear_241 4 rfl ?_
        refine tw_getI (v := nI (((fr.getD k []).length - 5))) (k := 24) C dX11_hear_242 fc_X11 sh_114 (hM 114 (by decide) (by decide)) rfl (by decide) wd_637 rfl ?_
        refine tn_icmp_ge C dX11_hear_245 (tgt := 275) (by decide) (by omega) (by omega) (fun c1 => ?_) (fun c1 => ?_)
        · skip
          refine TW.c (L' := [(6, .int (nI (8 * (fr.getD k []).getD 4 0))), (5, .int (nI ((tF (fr.getD k []))))), (4, .int (nI ((zF (fr.getD k []))))), (0, .ref (tw_ad G 114))]) (by simp) ?_
          exact t275 _ (8 * (fr.getD k []).getD 4 0) ((fr.getD k []).drop 5) (fun v S' h9 => by rw [if_pos hkl, PostH, if_neg c24, if_neg (by omega), if_pos ⟨h28, hl6⟩]; exact h9) (MI_pk hI) (fun j hj => hg j (by rw [List.length_drop] at hj; omega)) (by rw [List.length_drop]; rfl) hz40 hz600 (by have := gD_lt hfb8 4; omega) (by rw [List.length_drop]; omega)
        · exact absurd c1 (by omega)
      | succ d ih =>
        intro i g hi hg
        refine tw_iload C dX11_hear_239 0 rfl ?_
        refine tw_aload_n C dX11_hear_241 4 rfl ?_
        refine tw_getI (v := nI (((fr.getD k []).length - 5))) (k := 24) C dX11_hear_242 fc_X11 sh_114 (hM 114 (by decide) (by decide)) rfl (by decide) wd_637 rfl ?_
        refine tn_icmp_ge C dX11_hear_245 (tgt := 275) (by decide) (by omega) (by omega) (fun c1 => ?_) (fun c1 => ?_)
        · exact absurd c1 (by omega)
        refine tw_aload_n C dX11_hear_248 4 rfl ?_
        refine tw_getR (q := 122) (k := 23) C dX11_hear_249 fc_X11 sh_114 (hM 114 (by decide) (by decide)) rfl (by decide) wd_118 ?_
        refine tw_iload C dX11_hear_252 0 rfl ?_
        refine tw_aload_n C dX11_hear_254 4 rfl ?_
        refine tw_getR (q := 125) (k := 30) C dX11_hear_255 fc_X11 sh_114 (hM 114 (by decide) (by decide)) rfl (by decide) wd_121 ?_
        refine tw_bipush C dX11_hear_258 (v := nI 120) (by decide) ?_
        refine tw_iload_n C dX11_hear_260 5 rfl ?_
        refine tw_imul C dX11_hear_261 (v := nI (120 * k)) (pk_mul _ _) ?_
        refine tw_iconst C dX11_hear_262 (v := nI 5) (by decide) ?_
        refine tw_iadd C dX11_hear_263 (v := nI ((120 * k) + 5)) (nI_add _ _) ?_
        refine tw_iload C dX11_hear_264 0 rfl ?_
        refine tw_iadd C dX11_hear_266 (v := nI (((120 * k) + 5) + i)) (nI_add _ _) ?_
        refine tw_iald (v := nI ((fr.getD k []).getD (5 + i) 0)) C dX11_hear_267 sn_125 sa_125 (hM 125 (by decide) (by decide)) (by omega) (by decide) (by have h0 := hfr (5 + i) (by omega); rw [← Nat.add_assoc] at h0; exact h0) ?_
        refine tw_iast C dX11_hear_268 sn_122 sa_122 (hM 122 (by decide) (by decide)) (by omega) (by decide) ?_
        refine tw_iinc (k := 0) (v := nI (i + 1)) (L' := [(7, .int (nI (i + 1))), (6, .int (nI (8 * (fr.getD k []).getD 4 0))), (5, .int (nI ((tF (fr.getD k []))))), (4, .int (nI ((zF (fr.getD k []))))), (0, .ref (tw_ad G 114)), (1, .int (nI k))]) C N dX11_hear_269 rfl (tn_inc1 _) (by decide) rfl ?_
        refine tw_goto C dX11_hear_272 (tgt := 239) (by decide) ?_
        rw [wA_uA]
        refine TW.c (L' := [(7, .int (nI (i + 1))), (6, .int (nI (8 * (fr.getD k []).getD 4 0))), (5, .int (nI ((tF (fr.getD k []))))), (4, .int (nI ((zF (fr.getD k []))))), (0, .ref (tw_ad G 114)), (1, .int (nI k))]) (by simp) ?_
        exact ih (i + 1) _ (by omega) (fun j hj => by
          by_cases hx : j = i
          · rw [hx, getD_drop]; simp [upd]
          · simp only [upd, hx, if_false]; exact hg j (by omega))
    refine tw_aload_n C dX11_hear_10 0 rfl ?_
    refine tw_getR (q := 125) (k := 30) C dX11_hear_11 fc_X11 sh_114 (hM 114 (by decide) (by decide)) rfl (by decide) wd_121 ?_
    refine tw_bipush C dX11_hear_14 (v := nI 120) (by decide) ?_
    refine tw_iload_n C dX11_hear_16 1 rfl ?_
    refine tw_imul C dX11_hear_17 (v := nI (120 * k)) (pk_mul _ _) ?_
    refine tw_iald (v := nI ((fr.getD k []).getD 0 0)) C dX11_hear_18 sn_125 sa_125 (hM 125 (by decide) (by decide)) (by omega) (by decide) (hfr 0 (by omega)) ?_
    refine tw_istore_n (L' := [(2, .int (nI ((fr.getD k []).getD 0 0))), (0, .ref (tw_ad G 114)), (1, .int (nI k))]) C N dX11_hear_19 rfl (by decide) rfl ?_
    refine tw_iload_n C dX11_hear_20 0 rfl ?_
    refine tw_iconst C dX11_hear_21 (v := nI 5) (by decide) ?_
    refine tw_ishr C dX11_hear_22 (v := nI (((fr.getD k []).getD 0 0) / 32)) (nI_shr (by omega) 5 (by decide)) ?_
    refine tw_iconst C dX11_hear_23 (v := nI 3) (by decide) ?_
    refine tn_icmp_ne C dX11_hear_24 (tgt := 62) (by decide) (by omega) (by omega) (fun c24 => ?_) (fun c24 => ?_)
    · skip
      refine tw_iload_n C dX11_hear_62 0 rfl ?_
      refine tw_iconst C dX11_hear_63 (v := nI 3) (by decide) ?_
      refine tw_ishr C dX11_hear_64 (v := nI (((fr.getD k []).getD 0 0) / 8)) (nI_shr (by omega) 3 (by decide)) ?_
      refine tw_bipush C dX11_hear_65 (v := nI 24) (by decide) ?_
      refine tn_icmp_ne C dX11_hear_67 (tgt := 74) (by decide) (by omega) (by omega) (fun c1 => ?_) (fun c1 => ?_)
      · skip
        refine tw_iconst C dX11_hear_74 (v := nI 0) (by decide) ?_
        refine tw_istore_n (L' := [(3, .int (nI 0)), (2, .int (nI ((fr.getD k []).getD 0 0))), (0, .ref (tw_ad G 114)), (1, .int (nI k))]) C N dX11_hear_75 rfl (by decide) rfl ?_
        refine tw_iload_n C dX11_hear_76 0 rfl ?_
        refine tn_if_ne C dX11_hear_77 (tgt := 88) (by decide) (by omega) (fun c2 => ?_) (fun c2 => ?_)
        · exact absurd c2 (by decide)
        refine tw_iload_n C dX11_hear_80 1 rfl ?_
        refine tw_iconst C dX11_hear_81 (v := nI 3) (by decide) ?_
        refine tw_ishr C dX11_hear_82 (v := nI (((fr.getD k []).getD 0 0) / 8)) (nI_shr (by omega) 3 (by decide)) ?_
        refine tw_bipush C dX11_hear_83 (v := nI 28) (by decide) ?_
        refine tn_icmp_ne C dX11_hear_85 (tgt := 107) (by decide) (by omega) (by omega) (fun c3 => ?_) (fun c3 => ?_)
        · skip
          refine tw_aload_n C dX11_hear_107 2 rfl ?_
          refine tw_callV (As := []) (rest := []) C N (c_X11_drops hM hI) mm_X11_drops wd_840 rfl (hM 114 (by decide) (by decide)) sh_114 rfl (by decide) rfl (Nat.le_of_ble_eq_true rfl) dX11_hear_108 ?_
          rintro _ S5 ⟨rfl, hI5⟩
          show TW G X S5 [(3, .int (nI 0)), (2, .int (nI ((fr.getD k []).getD 0 0))), (0, .ref (tw_ad G 114)), (1, .int (nI k))] 111 [.int (nI 0)]
          exact tw_ireturn C Q dX11_hear_111 rfl rfl rfl (by rw [if_pos hkl, PostH, if_neg c24, if_neg (by omega), if_neg (by omega)]; exact ⟨rfl, hI5⟩)
        · skip
          refine tw_aload_n C dX11_hear_88 2 rfl ?_
          refine tw_getR (q := 126) (k := 31) C dX11_hear_89 fc_X11 sh_114 (hM 114 (by decide) (by decide)) rfl (by decide) wd_122 ?_
          refine tw_iload_n C dX11_hear_92 3 rfl ?_
          refine tw_iald (v := nI ((fr.getD k []).length)) C dX11_hear_93 sn_126 sa_126 (hM 126 (by decide) (by decide)) (by omega) (by decide) hsz ?_
          refine tw_iload_n C dX11_hear_94 0 rfl ?_
          refine tn_if_eq C dX11_hear_95 (tgt := 102) (by decide) (by omega) (fun c5 => ?_) (fun c5 => ?_)
          · skip
            refine tw_bipush C dX11_hear_102 (v := nI 6) (by decide) ?_
            refine tn_icmp_ge C dX11_hear_104 (tgt := 112) (by decide) (by omega) (by omega) (fun c6 => ?_) (fun c6 => ?_)
            · skip
              refine tw_iload_n C dX11_hear_112 1 rfl ?_
              refine tw_bipush C dX11_hear_113 (v := nI 7) (by decide) ?_
              refine tw_iand C dX11_hear_115 (v := nI (((fr.getD k []).getD 0 0) % 8)) (nI_andm 3 (by decide)) ?_
              refine tw_bipush C dX11_hear_116 (v := nI 8) (by decide) ?_
              refine tw_ishl C dX11_hear_118 (v := nI ((((fr.getD k []).getD 0 0) % 8) * 256)) (nI_shl _ 8 (by decide)) ?_
              refine tw_aload_n C dX11_hear_119 2 rfl ?_
              refine tw_getR (q := 125) (k := 30) C dX11_hear_120 fc_X11 sh_114 (hM 114 (by decide) (by decide)) rfl (by decide) wd_121 ?_
              refine tw_bipush C dX11_hear_123 (v := nI 120) (by decide) ?_
              refine tw_iload_n C dX11_hear_125 3 rfl ?_
              refine tw_imul C dX11_hear_126 (v := nI (120 * k)) (pk_mul _ _) ?_
              refine tw_iconst C dX11_hear_127 (v := nI 1) (by decide) ?_
              refine tw_iadd C dX11_hear_128 (v := nI ((120 * k) + 1)) (nI_add _ _) ?_
              refine tw_iald (v := nI ((fr.getD k []).getD 1 0)) C dX11_hear_129 sn_125 sa_125 (hM 125 (by decide) (by decide)) (by omega) (by decide) (hfr 1 (by omega)) ?_
              refine tw_ior C dX11_hear_130 (v := nI ((zF (fr.getD k [])))) (zF_or hfb8) ?_
              refine tw_istore (L' := [(4, .int (nI ((zF (fr.getD k []))))), (3, .int (nI 0)), (2, .int (nI ((fr.getD k []).getD 0 0))), (0, .ref (tw_ad G 114)), (1, .int (nI k))]) C N dX11_hear_131 (i := 4) (by decide) rfl ?_
              refine tw_aload_n C dX11_hear_133 3 rfl ?_
              refine tw_getR (q := 125) (k := 30) C dX11_hear_134 fc_X11 sh_114 (hM 114 (by decide) (by decide)) rfl (by decide) wd_121 ?_
              refine tw_bipush C dX11_hear_137 (v := nI 120) (by decide) ?_
              refine tw_iload_n C dX11_hear_139 4 rfl ?_
              refine tw_imul C dX11_hear_140 (v := nI (120 * k)) (pk_mul _ _) ?_
              refine tw_iconst C dX11_hear_141 (v := nI 2) (by decide) ?_
              refine tw_iadd C dX11_hear_142 (v := nI ((120 * k) + 2)) (nI_add _ _) ?_
              refine tw_iald (v := nI ((fr.getD k []).getD 2 0)) C dX11_hear_143 sn_125 sa_125 (hM 125 (by decide) (by decide)) (by omega) (by decide) (hfr 2 (by omega)) ?_
              refine tw_bipush C dX11_hear_144 (v := nI 8) (by decide) ?_
              refine tw_ishl C dX11_hear_146 (v := nI (((fr.getD k []).getD 2 0) * 256)) (nI_shl _ 8 (by decide)) ?_
              refine tw_aload_n C dX11_hear_147 3 rfl ?_
              refine tw_getR (q := 125) (k := 30) C dX11_hear_148 fc_X11 sh_114 (hM 114 (by decide) (by decide)) rfl (by decide) wd_121 ?_
              refine tw_bipush C dX11_hear_151 (v := nI 120) (by decide) ?_
              refine tw_iload_n C dX11_hear_153 4 rfl ?_
              refine tw_imul C dX11_hear_154 (v := nI (120 * k)) (pk_mul _ _) ?_
              refine tw_iconst C dX11_hear_155 (v := nI 3) (by decide) ?_
              refine tw_iadd C dX11_hear_156 (v := nI ((120 * k) + 3)) (nI_add _ _) ?_
              refine tw_iald (v := nI ((fr.getD k []).getD 3 0)) C dX11_hear_157 sn_125 sa_125 (hM 125 (by decide) (by decide)) (by omega) (by decide) (hfr 3 (by omega)) ?_
              refine tw_ior C dX11_hear_158 (v := nI ((tF (fr.getD k [])))) (tF_or hfb8) ?_
              refine tw_istore (L' := [(5, .int (nI ((tF (fr.getD k []))))), (4, .int (nI ((zF (fr.getD k []))))), (3, .int (nI 0)), (2, .int (nI ((fr.getD k []).getD 0 0))), (0, .ref (tw_ad G 114)), (1, .int (nI k))]) C N dX11_hear_159 (i := 5) (by decide) rfl ?_
              refine tw_iload C dX11_hear_161 1 rfl ?_
              refine tw_bipush C dX11_hear_163 (v := nI 40) (by decide) ?_
              refine tn_icmp_lt C dX11_hear_165 (tgt := 176) (by decide) (by omega) (by omega) (fun c7 => ?_) (fun c7 => ?_)
              · skip
                refine tw_aload_n C dX11_hear_176 4 rfl ?_
                refine tw_callV (As := []) (rest := []) C N (c_X11_drops hM hI) mm_X11_drops wd_840 rfl (hM 114 (by decide) (by decide)) sh_114 rfl (by decide) rfl (Nat.le_of_ble_eq_true rfl) dX11_hear_177 ?_
                rintro _ S5 ⟨rfl, hI5⟩
                show TW G X S5 [(5, .int (nI ((tF (fr.getD k []))))), (4, .int (nI ((zF (fr.getD k []))))), (3, .int (nI 0)), (2, .int (nI ((fr.getD k []).getD 0 0))), (0, .ref (tw_ad G 114)), (1, .int (nI k))] 180 [.int (nI 0)]
                exact tw_ireturn C Q dX11_hear_180 rfl rfl rfl (by rw [if_pos hkl, PostH, if_neg c24, if_neg (by omega), if_pos ⟨by omega, by omega⟩, PostQ, if_neg (okPB_f (by omega))]; exact ⟨rfl, hI5⟩)
              · skip
                refine tw_iload C dX11_hear_168 1 rfl ?_
                refine tw_sipush C dX11_hear_170 (v := nI 600) (by decide) ?_
                refine tn_icmp_le C dX11_hear_173 (tgt := 181) (by decide) (by omega) (by omega) (fun c9 => ?_) (fun c9 => ?_)
                · skip
                  refine tw_iconst C dX11_hear_181 (v := nI 0) (by decide) ?_
                  refine tw_istore (L' := [(6, .int (nI 0)), (5, .int (nI ((tF (fr.getD k []))))), (4, .int (nI ((zF (fr.getD k []))))), (3, .int (nI 0)), (2, .int (nI ((fr.getD k []).getD 0 0))), (0, .ref (tw_ad G 114)), (1, .int (nI k))]) C N dX11_hear_182 (i := 6) (by decide) rfl ?_
                  refine tw_iload_n C dX11_hear_184 3 rfl ?_
                  refine tn_if_eq C dX11_hear_185 (tgt := 208) (by decide) (by omega) (fun c10 => ?_) (fun c10 => ?_)
                  · skip
                    refine tw_bipush C dX11_hear_208 (v := nI 8) (by decide) ?_
                    refine tw_aload_n C dX11_hear_210 5 rfl ?_
                    refine tw_getR (q := 125) (k := 30) C dX11_hear_211 fc_X11 sh_114 (hM 114 (by decide) (by decide)) rfl (by decide) wd_121 ?_
                    refine tw_bipush C dX11_hear_214 (v := nI 120) (by decide) ?_
                    refine tw_iload_n C dX11_hear_216 6 rfl ?_
                    refine tw_imul C dX11_hear_217 (v := nI (120 * k)) (pk_mul _ _) ?_
                    refine tw_iconst C dX11_hear_218 (v := nI 4) (by decide) ?_
                    refine tw_iadd C dX11_hear_219 (v := nI ((120 * k) + 4)) (nI_add _ _) ?_
                    refine tw_iald (v := nI ((fr.getD k []).getD 4 0)) C dX11_hear_220 sn_125 sa_125 (hM 125 (by decide) (by decide)) (by omega) (by decide) (hfr 4 (by omega)) ?_
                    refine tw_imul C dX11_hear_221 (v := nI (8 * ((fr.getD k []).getD 4 0))) (pk_mul _ _) ?_
                    refine tw_istore (L' := [(6, .int (nI (8 * ((fr.getD k []).getD 4 0)))), (5, .int (nI ((tF (fr.getD k []))))), (4, .int (nI ((zF (fr.getD k []))))), (3, .int (nI 0)), (2, .int (nI ((fr.getD k []).getD 0 0))), (0, .ref (tw_ad G 114)), (1, .int (nI k))]) C N dX11_hear_222 (i := 6) (by decide) rfl ?_
                    refine tw_aload_n C dX11_hear_224 5 rfl ?_
                    refine tw_aload_n C dX11_hear_225 5 rfl ?_
                    refine tw_getR (q := 126) (k := 31) C dX11_hear_226 fc_X11 sh_114 (hM 114 (by decide) (by decide)) rfl (by decide) wd_122 ?_
                    refine tw_iload_n C dX11_hear_229 6 rfl ?_
                    refine tw_iald (v := nI ((fr.getD k []).length)) C dX11_hear_230 sn_126 sa_126 (hM 126 (by decide) (by decide)) (by omega) (by decide) hsz ?_
                    refine tw_iconst C dX11_hear_231 (v := nI 5) (by decide) ?_
                    refine tw_isub C dX11_hear_232 (v := nI (((fr.getD k []).length) - 5)) (pk_sub (by omega)) ?_
                    refine tw_putI (k := 24) C dX11_hear_233 fc_X11 sh_114 (hM 114 (by decide) (by decide)) rfl (by decide) rfl wd_637 rfl rfl ?_
                    refine tw_iconst C dX11_hear_236 (v := nI 0) (by decide) ?_
                    refine tw_istore (L' := [(7, .int (nI 0)), (6, .int (nI (8 * ((fr.getD k []).getD 4 0)))), (5, .int (nI ((tF (fr.getD k []))))), (4, .int (nI ((zF (fr.getD k []))))), (3, .int (nI 0)), (2, .int (nI ((fr.getD k []).getD 0 0))), (0, .ref (tw_ad G 114)), (1, .int (nI k))]) C N dX11_hear_237 (i := 7) (by decide) rfl ?_
                    refine TW.sS (wA_self _ 122).symm ?_
                    refine TW.c (L' := [(7, .int (nI 0)), (6, .int (nI (8 * (fr.getD k []).getD 4 0))), (5, .int (nI ((tF (fr.getD k []))))), (4, .int (nI ((zF (fr.getD k []))))), (0, .ref (tw_ad G 114)), (1, .int (nI k))]) (by simp) ?_
                    exact loop239 c24 (by omega) (by omega) (by omega) (by omega) ((fr.getD k []).length - 5) 0 _ (by omega) (fun j hj => absurd hj (by omega))
                  · exact absurd c10 (by decide)
                · skip
                  refine tw_aload_n C dX11_hear_176 4 rfl ?_
                  refine tw_callV (As := []) (rest := []) C N (c_X11_drops hM hI) mm_X11_drops wd_840 rfl (hM 114 (by decide) (by decide)) sh_114 rfl (by decide) rfl (Nat.le_of_ble_eq_true rfl) dX11_hear_177 ?_
                  rintro _ S5 ⟨rfl, hI5⟩
                  show TW G X S5 [(5, .int (nI ((tF (fr.getD k []))))), (4, .int (nI ((zF (fr.getD k []))))), (3, .int (nI 0)), (2, .int (nI ((fr.getD k []).getD 0 0))), (0, .ref (tw_ad G 114)), (1, .int (nI k))] 180 [.int (nI 0)]
                  exact tw_ireturn C Q dX11_hear_180 rfl rfl rfl (by rw [if_pos hkl, PostH, if_neg c24, if_neg (by omega), if_pos ⟨by omega, by omega⟩, PostQ, if_neg (okPB_f (by omega))]; exact ⟨rfl, hI5⟩)
            · skip
              refine tw_aload_n C dX11_hear_107 2 rfl ?_
              refine tw_callV (As := []) (rest := []) C N (c_X11_drops hM hI) mm_X11_drops wd_840 rfl (hM 114 (by decide) (by decide)) sh_114 rfl (by decide) rfl (Nat.le_of_ble_eq_true rfl) dX11_hear_108 ?_
              rintro _ S5 ⟨rfl, hI5⟩
              show TW G X S5 [(3, .int (nI 0)), (2, .int (nI ((fr.getD k []).getD 0 0))), (0, .ref (tw_ad G 114)), (1, .int (nI k))] 111 [.int (nI 0)]
              exact tw_ireturn C Q dX11_hear_111 rfl rfl rfl (by rw [if_pos hkl, PostH, if_neg c24, if_neg (by omega), if_neg (by omega)]; exact ⟨rfl, hI5⟩)
          · exact absurd c5 (by decide)
      · skip
        refine tw_iconst C dX11_hear_70 (v := nI 1) (by decide) ?_
        refine tw_goto C dX11_hear_71 (tgt := 75) (by decide) ?_
        refine tw_istore_n (L' := [(3, .int (nI 1)), (2, .int (nI ((fr.getD k []).getD 0 0))), (0, .ref (tw_ad G 114)), (1, .int (nI k))]) C N dX11_hear_75 rfl (by decide) rfl ?_
        refine tw_iload_n C dX11_hear_76 0 rfl ?_
        refine tn_if_ne C dX11_hear_77 (tgt := 88) (by decide) (by omega) (fun c13 => ?_) (fun c13 => ?_)
        · skip
          refine tw_aload_n C dX11_hear_88 2 rfl ?_
          refine tw_getR (q := 126) (k := 31) C dX11_hear_89 fc_X11 sh_114 (hM 114 (by decide) (by decide)) rfl (by decide) wd_122 ?_
          refine tw_iload_n C dX11_hear_92 3 rfl ?_
          refine tw_iald (v := nI ((fr.getD k []).length)) C dX11_hear_93 sn_126 sa_126 (hM 126 (by decide) (by decide)) (by omega) (by decide) hsz ?_
          refine tw_iload_n C dX11_hear_94 0 rfl ?_
          refine tn_if_eq C dX11_hear_95 (tgt := 102) (by decide) (by omega) (fun c14 => ?_) (fun c14 => ?_)
          · exact absurd c14 (by decide)
          refine tw_iconst C dX11_hear_98 (v := nI 5) (by decide) ?_
          refine tw_goto C dX11_hear_99 (tgt := 104) (by decide) ?_
          refine tn_icmp_ge C dX11_hear_104 (tgt := 112) (by decide) (by omega) (by omega) (fun c15 => ?_) (fun c15 => ?_)
          · skip
            refine tw_iload_n C dX11_hear_112 1 rfl ?_
            refine tw_bipush C dX11_hear_113 (v := nI 7) (by decide) ?_
            refine tw_iand C dX11_hear_115 (v := nI (((fr.getD k []).getD 0 0) % 8)) (nI_andm 3 (by decide)) ?_
            refine tw_bipush C dX11_hear_116 (v := nI 8) (by decide) ?_
            refine tw_ishl C dX11_hear_118 (v := nI ((((fr.getD k []).getD 0 0) % 8) * 256)) (nI_shl _ 8 (by decide)) ?_
            refine tw_aload_n C dX11_hear_119 2 rfl ?_
            refine tw_getR (q := 125) (k := 30) C dX11_hear_120 fc_X11 sh_114 (hM 114 (by decide) (by decide)) rfl (by decide) wd_121 ?_
            refine tw_bipush C dX11_hear_123 (v := nI 120) (by decide) ?_
            refine tw_iload_n C dX11_hear_125 3 rfl ?_
            refine tw_imul C dX11_hear_126 (v := nI (120 * k)) (pk_mul _ _) ?_
            refine tw_iconst C dX11_hear_127 (v := nI 1) (by decide) ?_
            refine tw_iadd C dX11_hear_128 (v := nI ((120 * k) + 1)) (nI_add _ _) ?_
            refine tw_iald (v := nI ((fr.getD k []).getD 1 0)) C dX11_hear_129 sn_125 sa_125 (hM 125 (by decide) (by decide)) (by omega) (by decide) (hfr 1 (by omega)) ?_
            refine tw_ior C dX11_hear_130 (v := nI ((zF (fr.getD k [])))) (zF_or hfb8) ?_
            refine tw_istore (L' := [(4, .int (nI ((zF (fr.getD k []))))), (3, .int (nI 1)), (2, .int (nI ((fr.getD k []).getD 0 0))), (0, .ref (tw_ad G 114)), (1, .int (nI k))]) C N dX11_hear_131 (i := 4) (by decide) rfl ?_
            refine tw_aload_n C dX11_hear_133 3 rfl ?_
            refine tw_getR (q := 125) (k := 30) C dX11_hear_134 fc_X11 sh_114 (hM 114 (by decide) (by decide)) rfl (by decide) wd_121 ?_
            refine tw_bipush C dX11_hear_137 (v := nI 120) (by decide) ?_
            refine tw_iload_n C dX11_hear_139 4 rfl ?_
            refine tw_imul C dX11_hear_140 (v := nI (120 * k)) (pk_mul _ _) ?_
            refine tw_iconst C dX11_hear_141 (v := nI 2) (by decide) ?_
            refine tw_iadd C dX11_hear_142 (v := nI ((120 * k) + 2)) (nI_add _ _) ?_
            refine tw_iald (v := nI ((fr.getD k []).getD 2 0)) C dX11_hear_143 sn_125 sa_125 (hM 125 (by decide) (by decide)) (by omega) (by decide) (hfr 2 (by omega)) ?_
            refine tw_bipush C dX11_hear_144 (v := nI 8) (by decide) ?_
            refine tw_ishl C dX11_hear_146 (v := nI (((fr.getD k []).getD 2 0) * 256)) (nI_shl _ 8 (by decide)) ?_
            refine tw_aload_n C dX11_hear_147 3 rfl ?_
            refine tw_getR (q := 125) (k := 30) C dX11_hear_148 fc_X11 sh_114 (hM 114 (by decide) (by decide)) rfl (by decide) wd_121 ?_
            refine tw_bipush C dX11_hear_151 (v := nI 120) (by decide) ?_
            refine tw_iload_n C dX11_hear_153 4 rfl ?_
            refine tw_imul C dX11_hear_154 (v := nI (120 * k)) (pk_mul _ _) ?_
            refine tw_iconst C dX11_hear_155 (v := nI 3) (by decide) ?_
            refine tw_iadd C dX11_hear_156 (v := nI ((120 * k) + 3)) (nI_add _ _) ?_
            refine tw_iald (v := nI ((fr.getD k []).getD 3 0)) C dX11_hear_157 sn_125 sa_125 (hM 125 (by decide) (by decide)) (by omega) (by decide) (hfr 3 (by omega)) ?_
            refine tw_ior C dX11_hear_158 (v := nI ((tF (fr.getD k [])))) (tF_or hfb8) ?_
            refine tw_istore (L' := [(5, .int (nI ((tF (fr.getD k []))))), (4, .int (nI ((zF (fr.getD k []))))), (3, .int (nI 1)), (2, .int (nI ((fr.getD k []).getD 0 0))), (0, .ref (tw_ad G 114)), (1, .int (nI k))]) C N dX11_hear_159 (i := 5) (by decide) rfl ?_
            refine tw_iload C dX11_hear_161 1 rfl ?_
            refine tw_bipush C dX11_hear_163 (v := nI 40) (by decide) ?_
            refine tn_icmp_lt C dX11_hear_165 (tgt := 176) (by decide) (by omega) (by omega) (fun c16 => ?_) (fun c16 => ?_)
            · skip
              refine tw_aload_n C dX11_hear_176 4 rfl ?_
              refine tw_callV (As := []) (rest := []) C N (c_X11_drops hM hI) mm_X11_drops wd_840 rfl (hM 114 (by decide) (by decide)) sh_114 rfl (by decide) rfl (Nat.le_of_ble_eq_true rfl) dX11_hear_177 ?_
              rintro _ S5 ⟨rfl, hI5⟩
              show TW G X S5 [(5, .int (nI ((tF (fr.getD k []))))), (4, .int (nI ((zF (fr.getD k []))))), (3, .int (nI 1)), (2, .int (nI ((fr.getD k []).getD 0 0))), (0, .ref (tw_ad G 114)), (1, .int (nI k))] 180 [.int (nI 0)]
              exact tw_ireturn C Q dX11_hear_180 rfl rfl rfl (by rw [if_pos hkl, PostH, if_neg c24, if_pos ⟨by omega, by omega⟩, if_neg (fun h => by omega)]; exact ⟨rfl, hI5⟩)
            · skip
              refine tw_iload C dX11_hear_168 1 rfl ?_
              refine tw_sipush C dX11_hear_170 (v := nI 600) (by decide) ?_
              refine tn_icmp_le C dX11_hear_173 (tgt := 181) (by decide) (by omega) (by omega) (fun c18 => ?_) (fun c18 => ?_)
              · skip
                refine tw_iconst C dX11_hear_181 (v := nI 0) (by decide) ?_
                refine tw_istore (L' := [(6, .int (nI 0)), (5, .int (nI ((tF (fr.getD k []))))), (4, .int (nI ((zF (fr.getD k []))))), (3, .int (nI 1)), (2, .int (nI ((fr.getD k []).getD 0 0))), (0, .ref (tw_ad G 114)), (1, .int (nI k))]) C N dX11_hear_182 (i := 6) (by decide) rfl ?_
                refine tw_iload_n C dX11_hear_184 3 rfl ?_
                refine tn_if_eq C dX11_hear_185 (tgt := 208) (by decide) (by omega) (fun c19 => ?_) (fun c19 => ?_)
                · exact absurd c19 (by decide)
                refine tw_aload_n C dX11_hear_188 5 rfl ?_
                refine tw_iload_n C dX11_hear_189 6 rfl ?_
                refine tw_iconst C dX11_hear_190 (v := nI 4) (by decide) ?_
                refine tw_callV (As := [.int (nI k), .int (nI 4)]) (rest := []) C N (c_X11_reads hM hI (k := k) (a := 4) hkl hfl (by omega)) mm_X11_reads wd_836 rfl (hM 114 (by decide) (by decide)) sh_114 rfl (by decide) rfl (Nat.le_of_ble_eq_true rfl) dX11_hear_191 ?_
                rintro _ _ ⟨g, rfl, hg⟩
                show TW G X (tw_wA (tw_uI S 114 19 (nI ((fr.getD k []).drop 4).length)) 121 g) [(6, .int (nI 0)), (5, .int (nI ((tF (fr.getD k []))))), (4, .int (nI ((zF (fr.getD k []))))), (3, .int (nI 1)), (2, .int (nI ((fr.getD k []).getD 0 0))), (0, .ref (tw_ad G 114)), (1, .int (nI k))] 194 []
                refine tw_aload_n C dX11_hear_194 5 rfl ?_
                refine tw_iload C dX11_hear_195 2 rfl ?_
                refine tw_callV (As := [.int (nI ((zF (fr.getD k []))))]) (rest := []) C N (c_X11_unfolds hM (S := tw_wA (tw_uI S 114 19 (nI ((fr.getD k []).drop 4).length)) 121 g) (MI_rd hI) (bs := ((fr.getD k []).drop 4)) hg rfl (by rw [List.length_drop]; omega) (drop_b hfb8) (z := nI (zF (fr.getD k []))) (o := some ((zF (fr.getD k [])) - 40)) (Or.inr ⟨(zF (fr.getD k [])) - 40, by omega, by rw [Nat.sub_add_cancel (by omega)], rfl⟩)) mm_X11_unfolds wd_588 rfl (hM 114 (by decide) (by decide)) sh_114 rfl (by decide) rfl (Nat.le_of_ble_eq_true rfl) dX11_hear_197 ?_
                rintro _ S2 (⟨⟨he, rfl, hP, h24, hT⟩ | ⟨he, rfl⟩, h21, h22, hI2⟩)
                · show TW G X S2 [(6, .int (nI 0)), (5, .int (nI ((tF (fr.getD k []))))), (4, .int (nI ((zF (fr.getD k []))))), (3, .int (nI 1)), (2, .int (nI ((fr.getD k []).getD 0 0))), (0, .ref (tw_ad G 114)), (1, .int (nI k))] 200 [.int (nI 1)]
                  refine tn_if_ne C dX11_hear_200 (tgt := 275) (by decide) (by omega) (fun c22 => ?_) (fun c22 => ?_)
                  · skip
                    refine TW.c (L' := [(6, .int (nI 0)), (5, .int (nI ((tF (fr.getD k []))))), (4, .int (nI ((zF (fr.getD k []))))), (0, .ref (tw_ad G 114))]) (by simp) ?_
                    exact t275 S2 0 _ (fun v S' h9 => by rw [if_pos hkl, PostH, if_neg c24, if_pos ⟨by omega, by omega⟩, if_pos ⟨by omega, by omega, he⟩]; exact h9) hI2 hP h24 (by omega) (by omega) (by omega) (by have h7 := (uPk_ge K ((fr.getD k []).drop 4) 0 (some ((zF (fr.getD k [])) - 40))).2; rw [List.length_drop] at h7; omega)
                  · exact absurd c22 (by decide)
                · show TW G X S2 [(6, .int (nI 0)), (5, .int (nI ((tF (fr.getD k []))))), (4, .int (nI ((zF (fr.getD k []))))), (3, .int (nI 1)), (2, .int (nI ((fr.getD k []).getD 0 0))), (0, .ref (tw_ad G 114)), (1, .int (nI k))] 200 [.int (nI 0)]
                  refine tn_if_ne C dX11_hear_200 (tgt := 275) (by decide) (by omega) (fun c23 => ?_) (fun c23 => ?_)
                  · exact absurd c23 (by decide)
                  refine tw_aload_n C dX11_hear_203 5 rfl ?_
                  refine tw_callV (As := []) (rest := []) C N (c_X11_drops hM hI2) mm_X11_drops wd_840 rfl (hM 114 (by decide) (by decide)) sh_114 rfl (by decide) rfl (Nat.le_of_ble_eq_true rfl) dX11_hear_204 ?_
                  rintro _ S5 ⟨rfl, hI5⟩
                  show TW G X S5 [(6, .int (nI 0)), (5, .int (nI ((tF (fr.getD k []))))), (4, .int (nI ((zF (fr.getD k []))))), (3, .int (nI 1)), (2, .int (nI ((fr.getD k []).getD 0 0))), (0, .ref (tw_ad G 114)), (1, .int (nI k))] 207 [.int (nI 0)]
                  exact tw_ireturn C Q dX11_hear_207 rfl rfl rfl (by rw [if_pos hkl, PostH, if_neg c24, if_pos ⟨by omega, by omega⟩, if_neg (fun h => he h.2.2)]; exact ⟨rfl, hI5⟩)
              · skip
                refine tw_aload_n C dX11_hear_176 4 rfl ?_
                refine tw_callV (As := []) (rest := []) C N (c_X11_drops hM hI) mm_X11_drops wd_840 rfl (hM 114 (by decide) (by decide)) sh_114 rfl (by decide) rfl (Nat.le_of_ble_eq_true rfl) dX11_hear_177 ?_
                rintro _ S5 ⟨rfl, hI5⟩
                show TW G X S5 [(5, .int (nI ((tF (fr.getD k []))))), (4, .int (nI ((zF (fr.getD k []))))), (3, .int (nI 1)), (2, .int (nI ((fr.getD k []).getD 0 0))), (0, .ref (tw_ad G 114)), (1, .int (nI k))] 180 [.int (nI 0)]
                exact tw_ireturn C Q dX11_hear_180 rfl rfl rfl (by rw [if_pos hkl, PostH, if_neg c24, if_pos ⟨by omega, by omega⟩, if_neg (fun h => by omega)]; exact ⟨rfl, hI5⟩)
          · skip
            refine tw_aload_n C dX11_hear_107 2 rfl ?_
            refine tw_callV (As := []) (rest := []) C N (c_X11_drops hM hI) mm_X11_drops wd_840 rfl (hM 114 (by decide) (by decide)) sh_114 rfl (by decide) rfl (Nat.le_of_ble_eq_true rfl) dX11_hear_108 ?_
            rintro _ S5 ⟨rfl, hI5⟩
            show TW G X S5 [(3, .int (nI 1)), (2, .int (nI ((fr.getD k []).getD 0 0))), (0, .ref (tw_ad G 114)), (1, .int (nI k))] 111 [.int (nI 0)]
            exact tw_ireturn C Q dX11_hear_111 rfl rfl rfl (by rw [if_pos hkl, PostH, if_neg c24, if_neg (by omega), if_neg (by omega)]; exact ⟨rfl, hI5⟩)
        · exact absurd c13 (by decide)
    · skip
      refine tw_aload_n C dX11_hear_27 1 rfl ?_
      refine tw_iload_n C dX11_hear_28 2 rfl ?_
      refine tw_iconst C dX11_hear_29 (v := nI 0) (by decide) ?_
      refine tw_callV (As := [.int (nI k), .int (nI 0)]) (rest := []) C N (c_X11_reads hM hI (k := k) (a := 0) hkl hfl (by omega)) mm_X11_reads wd_836 rfl (hM 114 (by decide) (by decide)) sh_114 rfl (by decide) rfl (Nat.le_of_ble_eq_true rfl) dX11_hear_30 ?_
      rintro _ _ ⟨g, rfl, hg⟩
      show TW G X (tw_wA (tw_uI S 114 19 (nI ((fr.getD k []).drop 0).length)) 121 g) [(2, .int (nI ((fr.getD k []).getD 0 0))), (0, .ref (tw_ad G 114)), (1, .int (nI k))] 33 []
      refine tw_aload_n C dX11_hear_33 1 rfl ?_
      refine tw_iconst C dX11_hear_34 (v := (-1)) (by decide) ?_
      refine tw_callV (As := [.int ((-1))]) (rest := []) C N (c_X11_unfolds hM (S := tw_wA (tw_uI S 114 19 (nI ((fr.getD k []).drop 0).length)) 121 g) (MI_rd hI) (bs := (fr.getD k [])) hg rfl (by omega) hfb8 (z := -1) (o := none) (Or.inl ⟨rfl, rfl⟩)) mm_X11_unfolds wd_588 rfl (hM 114 (by decide) (by decide)) sh_114 rfl (by decide) rfl (Nat.le_of_ble_eq_true rfl) dX11_hear_35 ?_
      rintro _ S2 (⟨⟨he, rfl, hP, h24, hT⟩ | ⟨he, rfl⟩, h21, h22, hI2⟩)
      · show TW G X S2 [(2, .int (nI ((fr.getD k []).getD 0 0))), (0, .ref (tw_ad G 114)), (1, .int (nI k))] 38 [.int (nI 1)]
        refine tn_if_ne C dX11_hear_38 (tgt := 46) (by decide) (by omega) (fun c29 => ?_) (fun c29 => ?_)
        · skip
          refine tw_aload_n C dX11_hear_46 1 rfl ?_
          refine tw_callV (As := []) (rest := []) C N (c_X11_packetToOut hM (S := S2) (P := uPk K (fr.getD k []) 0 none) hP h24 (by have := uPk_le he; omega)) mm_X11_packetToOut wd_638 rfl (hM 114 (by decide) (by decide)) sh_114 rfl (by decide) rfl (Nat.le_of_ble_eq_true rfl) dX11_hear_47 ?_
          rintro _ _ ⟨g3, rfl, hg3⟩
          show TW G X (MU S2 119 6 g3 (uPk K (fr.getD k []) 0 none)) [(2, .int (nI ((fr.getD k []).getD 0 0))), (0, .ref (tw_ad G 114)), (1, .int (nI k))] 50 []
          refine tw_aload_n C dX11_hear_50 1 rfl ?_
          refine tw_dup C dX11_hear_51 rfl ?_
          refine tw_getI (v := nI wh) (k := 42) C dX11_hear_52 fc_X11 sh_114 (hM 114 (by decide) (by decide)) rfl (by decide) wd_835 hI2.2.2.2.2.2.2.2.1 ?_
          refine tw_iconst C dX11_hear_55 (v := nI 1) (by decide) ?_
          refine tw_iadd C dX11_hear_56 (v := nI (wh + 1)) (nI_add _ _) ?_
          refine tw_putI (k := 42) C dX11_hear_57 fc_X11 sh_114 (hM 114 (by decide) (by decide)) rfl (by decide) rfl wd_835 rfl rfl ?_
          refine tw_iconst C dX11_hear_60 (v := nI 2) (by decide) ?_
          exact tw_ireturn C Q dX11_hear_61 rfl rfl rfl (by rw [if_pos hkl, PostH, if_pos (by omega), if_pos he]; exact ⟨rfl, MI_wh (MI_ot hI2 hg3)⟩)
        · exact absurd c29 (by decide)
      · show TW G X S2 [(2, .int (nI ((fr.getD k []).getD 0 0))), (0, .ref (tw_ad G 114)), (1, .int (nI k))] 38 [.int (nI 0)]
        refine tn_if_ne C dX11_hear_38 (tgt := 46) (by decide) (by omega) (fun c31 => ?_) (fun c31 => ?_)
        · exact absurd c31 (by decide)
        refine tw_aload_n C dX11_hear_41 1 rfl ?_
        refine tw_callV (As := []) (rest := []) C N (c_X11_drops hM hI2) mm_X11_drops wd_840 rfl (hM 114 (by decide) (by decide)) sh_114 rfl (by decide) rfl (Nat.le_of_ble_eq_true rfl) dX11_hear_42 ?_
        rintro _ S5 ⟨rfl, hI5⟩
        show TW G X S5 [(2, .int (nI ((fr.getD k []).getD 0 0))), (0, .ref (tw_ad G 114)), (1, .int (nI k))] 45 [.int (nI 0)]
        exact tw_ireturn C Q dX11_hear_45 rfl rfl rfl (by rw [if_pos hkl, PostH, if_pos (by omega), if_neg he]; exact ⟨rfl, hI5⟩)
  refine tw_aload_n C dX11_hear_0 0 rfl ?_
  refine tw_iload_n C dX11_hear_1 1 rfl ?_
  refine tw_callV (As := [.int (nI k)]) (rest := []) C N (c_X11_isFrame hM (S := S) (m := fr.length) (k := k) (by omega) (by have := hI.2.2.2.1.1; omega) hI.2.2.2.1.2.1) mm_X11_isFrame wd_717 rfl (hM 114 (by decide) (by decide)) sh_114 rfl (by decide) rfl (Nat.le_of_ble_eq_true rfl) dX11_hear_2 ?_
  rintro _ _ ⟨rfl, rfl⟩
  show TW G X S [(0, .ref (tw_ad G 114)), (1, .int (nI k))] 5 [.int (bI (decide (k < fr.length)))]
  refine tb_if_ne C dX11_hear_5 (tgt := 10) (by decide) (fun ck1 => ?_) (fun ck1 => ?_)
  · skip
    exact t10 (of_decide_eq_true ck1)
  · skip
    refine tw_iconst C dX11_hear_8 (v := (-1)) (by decide) ?_
    exact tw_ireturn C Q dX11_hear_9 rfl rfl rfl (by rw [if_neg (of_decide_eq_false ck1)]; exact ⟨rfl, rfl⟩)
