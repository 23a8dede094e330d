/-! a packet by cells lies on the tape -/
/-- a call with more on the stack behind it -/
theorem va_runSD {p : Program} {l : Launch} {e : Env} {R : Room} {s : State} {m : MethodId} {args : Array Value} {below : List Frame} {meth : Method} {c : Code} {H : Heap} {locs : List Loc} {cells slots : Nat} {y : MethodName} {bytes cc : ByteArray} {maxL nL mc ms n index : Nat} {ret : Option FieldType} {ws : List Cond} {rm : Room} {Pc : Array Value → State → Prop} {Qc : Array Value → State → Outcome → State → Prop} {free : Addr → Prop} {Ts : List Cond} {own : String} {As rest : List Value} {g : JFrame}
    (S : CallFix p m c cc nL s args Ts own) (hM : Met l y ws rm Pc Qc mc ms free) (cw : CallB R s args own index y bytes maxL ret ws rm mc ms n ∧ (Cond.static y).before args s = true) (hlo : 20 + (maxL + 11) + rm.locals ≤ R.locals) (hp : PreS s H Pc As)
    (hg : g.method = m) (hn : As.length = n) (hsize : g.locals.size = nL) (hstack : g.stack = As.reverse ++ rest) (hW : 2 * g.monitorRoom + (rest.map fun v => v.category).sum ≤ 20) (hdg : decode cc g.pc = .ok (.invokestatic index, 3)) (hf : cells + mc ≤ R.cells ∧ slots + ms ≤ R.slots) :
    va_Run p l e R s m args below meth c H locs cells slots mc ms g rest (Qc As.toArray) (free) := by
  obtain ⟨⟨hrc, hrs, hfr, -, hws, hcw, hcode, hini, hy, hlen, hl⟩, hstt⟩ := cw
  have hK : Back l R p e below s args y 3 20 (PreOf R mc ms Pc) (PostOf Qc mc ms free) := back_of (bytes := bytes) (maxL := maxL) (ret := ret) hM hp.1 hrc hrs hfr hlo hws hcw (fun a' U hW => word_at hW (Or.inl (by first | rfl | simp [Cond.onTables, Cond.keeps, Cond.steady])) hini)
  obtain ⟨hx, hb, hml, ho, -⟩ := S
  intro T hT X
  obtain ⟨v, vm₁, ⟨U', l2, c2, s2⟩, hW₁, X', ⟨g', mk, t, L, e1, e2, hq, h1, hL, h2, h3⟩, st⟩ := callS X hx (bytes := bytes) (maxL := maxL) (ret := ret) ho hl hstt hini hcode hy hK hg (hsize.trans hml.symm) (argsL := As) (rest := rest) (fun sig h => hn.trans (hlen sig h)) hstack hW (by rw [hb]; exact hdg)
    (fun vm₁ hW₁ => ⟨hf.1, hf.2, hp.2 (T.setVm vm₁) hT hW₁⟩)
  dsimp only [Pt.U, Pt.locs, Pt.cells, Pt.slots] at X' e1 e2 h1 h2 h3 st
  subst h1; subst h2; subst h3
  exact ⟨v, (T.setVm vm₁).calling g' mk As.toArray, t, U', L, hT, X', hL, e1, e2, hq, st⟩
theorem tw_callSD {G : tw_G} {X : tw_X} {S : tw_S} {L : List (Nat × Value)} {pc : Nat} {st : List Value} {cc : ByteArray} {own : String} {α : Type} {inj : α → Option Value} {post : α → tw_S → Prop} {ret : Option FieldType} {y : MethodName} {bytes : ByteArray} {maxL fr lo nL fr0 lo0 idx n : Nat} {As rest : List Value} (C : tw_C G X cc own) (NN : tw_N X nL fr0 lo0) (hM : tw_M G y bytes maxL ret fr lo As S inj post) (hm : tw_mS y bytes maxL ret n) (hw : Cond.methodLink own idx y ∈ lw_g) (hAs : As.length = n) (hR : fr + 1 ≤ fr0 ∧ 20 + (maxL + 11) + lo ≤ lo0) (hst : st = As.reverse ++ rest) (hrm : (rest.map fun v => v.category).sum ≤ 20) (hd : decode cc pc = .ok (.invokestatic idx, 3))
    (kk : ∀ (v : α) (S' : tw_S), post v S' → TW G X S' L (pc + 3) ((inj v).toList ++ rest)) : TW G X S L pc st := by
  intro H locs ls hW hS hl
  have hcw : CallB (tx_R X) (tx_s X) (tx_a X) own idx y bytes maxL ret (Cond.code y bytes maxL ret :: lw_g) ({ frames := fr, cells := 0, slots := 0, locals := lo }) 0 0 n ∧ (Cond.static y).before (tx_a X) (tx_s X) = true :=
    ⟨⟨rfl, rfl, by rw [NN.2.1]; exact hR.1, show 8 + (maxL + 11) + lo ≤ (tx_R X).locals by rw [NN.2.2.1]; have := hR.2; omega, tw_words C hm.2.2.1, List.mem_cons_self, C.ts _ hm.2.2.1, C.ts _ hm.2.1, ⟨hm.2.2.2.1, hm.2.2.2.2.1⟩, fun sig h => by
      have h2 := hm.2.2.2.2.2
      rw [h] at h2
      exact (Option.some.inj h2).symm, C.ts _ hw⟩, C.ts _ hm.1⟩
  have hp : PreS (tx_s X) H (tw_Pc G H.size As S) As := ⟨tw_blind, fun U hU hWm => ⟨rfl, tw_pre C hW hS hU hWm⟩⟩
  exact tw_after C hS hl (va_runSD (n := n) ⟨C.1, C.2.1, C.2.2.1, C.ow, C.ts⟩ (hM H.size) hcw (show 20 + (maxL + 11) + lo ≤ (tx_R X).locals by rw [NN.2.2.1]; exact hR.2) hp rfl hAs hl.1 hst (show 2 * 0 + _ ≤ 20 by omega) hd ⟨NN.2.2.2.1, NN.2.2.2.2⟩) kk
/-- the packet's T, L, KIND, HOPS by a cell -/
def lyT (G : tw_G) : Nat := if cN G 1 % 3 = 0 then 0 else if cN G 1 % 3 = 1 then cN G 1 / 16 % 4 else cN G 1 / 16 % 256
def lyL (G : tw_G) : Nat := if cN G 1 % 5 < 2 then 0 else cN G 1 / 64 % 1048576
def lyK (G : tw_G) : Nat := if cN G 1 % 7 < 3 then 17 else cN G 1 / 512 % 256
def lyP (G : tw_G) : Nat := if cN G 1 % 11 < 2 then 1 else if cN G 1 % 11 < 4 then 64 else if cN G 1 % 11 < 6 then 255 else cN G 1 / 1024 % 256
theorem ly_lt (G : tw_G) : lyT G ≤ 255 ∧ lyL G ≤ 1048575 ∧ lyK G ≤ 255 ∧ lyP G ≤ 255 := by
  refine ⟨?_, ?_, ?_, ?_⟩
  · unfold lyT; split
    · omega
    · split <;> omega
  · unfold lyL; split <;> omega
  · unfold lyK; split <;> omega
  · unfold lyP; split
    · omega
    · split
      · omega
      · split <;> omega
/-- a byte behind the head -/
def bV (G : tw_G) (k : Nat) : Nat := cN G (6 + k % 40) / 2 ^ (k % 23) % 256
def bU (G : tw_G) (k : Nat) : Nat := if lyK G = 17 ∧ cN G 1 % 2 = 0 ∧ k = 4 then cN G 0 % 161 / 256 else if lyK G = 17 ∧ cN G 1 % 2 = 0 ∧ k = 5 then cN G 0 % 161 % 256 else if lyK G = 17 ∧ k % 2 = 0 ∧ k < 4 ∧ 0 < cN G 1 / 2 ^ k / 2 % 2 * 2 then 240 else if lyK G = 17 ∧ k < 4 ∧ 0 < cN G 1 / 32 % 2 then 176 ||| bV G k % 16 else bV G k
theorem bV_lt (G : tw_G) (k : Nat) : bV G k < 256 := Nat.mod_lt _ (by decide)
theorem bU_lt (G : tw_G) (k : Nat) : bU G k < 256 := by
  have := bV_lt G k
  unfold bU
  split
  · omega
  · split
    · omega
    · split
      · omega
      · split
        · exact Nat.or_lt_two_pow (n := 8) (by omega) (by omega)
        · exact this
def lyH (G : tw_G) : List Nat := [] ++ be (ff (lyT G) (lyL G)) 4 ++ be (cN G 0 % 161) 2 ++ [lyK G % 256] ++ [lyP G % 256] ++ be (fU (cN G 2)) 8 ++ be (sU (cN G 3) 0) 8 ++ be (fU (cN G 4)) 8 ++ be (sU (cN G 5) 1) 8
def lyB (G : tw_G) : Nat → List Nat
  | 0 => []
  | k + 1 => lyB G k ++ be (bU G k) 1
/-- the packet -/
def lyA (G : tw_G) : List Nat := lyH G ++ lyB G (cN G 0 % 161)
theorem lyH_l (G : tw_G) : (lyH G).length = 40 := by unfold lyH; simp only [List.length_append, be_len, List.length_cons, List.length_nil]
theorem lyB_l (G : tw_G) : ∀ k, (lyB G k).length = k
  | 0 => rfl
  | k + 1 => by unfold lyB; rw [List.length_append, be_len, lyB_l G k]
theorem lyA_l (G : tw_G) : (lyA G).length = 40 + cN G 0 % 161 := by unfold lyA; rw [List.length_append, lyH_l, lyB_l]
theorem lyA_pk (G : tw_G) : isPk (lyA G) := by
  have hl := lyA_l G
  have h := ly_lt G
  have hA : AT (lyA G) 0 (lyH G) := (AT_ap (AT_rf (lyA G))).1
  unfold lyH at hA
  obtain ⟨h1, -⟩ := AT_ap hA
  obtain ⟨h2, -⟩ := AT_ap h1
  obtain ⟨h3, -⟩ := AT_ap h2
  obtain ⟨h4, -⟩ := AT_ap h3
  obtain ⟨h5, -⟩ := AT_ap h4
  obtain ⟨h6, -⟩ := AT_ap h5
  obtain ⟨h7, h8⟩ := AT_ap h6
  obtain ⟨-, h9⟩ := AT_ap h7
  rw [List.length_append, List.length_nil, be_len] at h8
  rw [List.length_nil] at h9
  have e0 := h9.2 0 (by rw [be_len]; decide)
  rw [be_gD (by decide)] at e0
  have e1 := AT_nb2 h8 (by omega)
  refine ⟨by omega, by omega, ?_, ?_⟩
  · rw [show (lyA G).getD 0 0 = (lyA G).getD (0 + 0 + 0) 0 from rfl, e0]
    show ff (lyT G) (lyL G) / 2 ^ 24 % 256 / 16 = 6
    unfold ff
    omega
  · rw [show (4 : Nat) = 0 + (0 + 4) from rfl, e1, hl]; omega
theorem c_L_lays {G : tw_G} (hG : tw_cG G) (hsn : tw_sn G ≤ 260) {S : tw_S} {K : kN} {ot : List Nat} {fr : List (List Nat)} {T : Nat → Int32} {c : Nat → cH} {ck wh dr la an : Nat} (hC : CI S K ([]) ot fr T c ck wh dr la an) : tw_M G yL_lays cL_lays 13 (some .int) 3 78 [.ref (tw_ad G 0), .ref (tw_sb G), .int (nI 160)] S ri_I (fun v S' => v = nI (lyA G).length ∧ CI S' K (lyA G) ot fr T c ck wh dr la an) := by
  refine tw_M.of (L := [(0, .ref (tw_ad G 0)), (1, .ref (tw_sb G)), (2, .int (nI 160))]) (by decide) (Nat.le_of_ble_eq_true rfl) rfl (fun X C N Q => ?_)
  have C : tw_C G X cL_lays RL := C
  have ha1 := cN_lt G 1
  have ha0 := cN_lt G 0
  have hly := ly_lt G
  have hle := lyH_l G
  have loop : ∀ (d k : Nat) (S2 : tw_S), k + d = cN G 0 % 161 → CI S2 K (lyH G ++ lyB G k) ot fr T c ck wh dr la an → TW G X S2 [(10, .int (nI k)), (9, .int (nI 40)), (8, .int (nI (lyP G))), (7, .int (nI (lyK G))), (6, .int (nI (lyL G))), (5, .int (nI (lyT G))), (4, .int (nI (cN G 1))), (3, .int (nI (cN G 0 % 161))), (0, .ref (tw_ad G 0)), (1, .ref (tw_sb G)), (2, .int (nI 160))] 208 [] := by
    intro d
    induction d with
    | zero =>
      intro k S2 hk hC2
      refine tw_iload C dL_lays_208 0 rfl ?_
      refine tw_iload_n C dL_lays_210 7 rfl ?_
      refine tn_icmp_ge C dL_lays_211 (tgt := 383) (by decide) (by omega) (by omega) (fun c1 => ?_) (fun c1 => ?_)
      · skip
        refine tw_iload C dL_lays_383 1 rfl ?_
        refine tn_if_ge C dL_lays_385 (tgt := 393) (by decide) (by omega) (fun c2 => ?_) (fun c2 => ?_)
        · skip
          refine tw_bipush C dL_lays_393 (v := nI 40) (by decide) ?_
          refine tw_iload_n C dL_lays_395 7 rfl ?_
          refine tw_iadd C dL_lays_396 (v := nI (40 + (cN G 0 % 161))) (nI_add _ _) ?_
          exact tw_ireturn C Q dL_lays_397 rfl rfl rfl ⟨by rw [lyA_l], by unfold lyA; rw [show cN G 0 % 161 = k by omega]; exact hC2⟩
        · exact absurd trivial (by simp at c2)
      · exact absurd c1 (by omega)
    | succ d ih =>
      intro k S2 hk hC2
      have hbv := bV_lt G k
      have hbu := bU_lt G k
      have t365 : TW G X S2 [(11, .int (nI (bV G k))), (10, .int (nI k)), (9, .int (nI 40)), (8, .int (nI (lyP G))), (7, .int (nI (lyK G))), (6, .int (nI (lyL G))), (5, .int (nI (lyT G))), (4, .int (nI (cN G 1))), (3, .int (nI (cN G 0 % 161))), (0, .ref (tw_ad G 0)), (1, .ref (tw_sb G)), (2, .int (nI 160))] 365 [.int (nI (bU G k))] := by
        refine tw_istore (L' := [(11, .int (nI (bU G k))), (10, .int (nI k)), (9, .int (nI 40)), (8, .int (nI (lyP G))), (7, .int (nI (lyK G))), (6, .int (nI (lyL G))), (5, .int (nI (lyT G))), (4, .int (nI (cN G 1))), (3, .int (nI (cN G 0 % 161))), (0, .ref (tw_ad G 0)), (1, .ref (tw_sb G)), (2, .int (nI 160))]) C N dL_lays_365 (i := 11) (by decide) rfl ?_
        refine tw_aload_n C dL_lays_367 9 rfl ?_
        refine tw_iload C dL_lays_368 0 rfl ?_
        refine tw_i2l C dL_lays_370 (v := lN (bU G k)) (nI_i64 (by omega)) ?_
        refine tw_iconst C dL_lays_371 (v := nI 1) (by decide) ?_
        refine tw_callV (As := [.long (lN (bU G k)), .int (nI 1)]) (rest := []) C N (c_X10_type hG (S := S2) hC2 (i := 1) (by decide) (u := bU G k) (by omega)) mm_X10_type wd_187 rfl (hG 0 (by decide)) sh_0 rfl (by decide) rfl (Nat.le_of_ble_eq_true rfl) dL_lays_372 ?_
        rintro v S3 hp
        show TW G X S3 [(11, .int (nI (bU G k))), (10, .int (nI k)), (9, .int (nI 40)), (8, .int (nI (lyP G))), (7, .int (nI (lyK G))), (6, .int (nI (lyL G))), (5, .int (nI (lyT G))), (4, .int (nI (cN G 1))), (3, .int (nI (cN G 0 % 161))), (0, .ref (tw_ad G 0)), (1, .ref (tw_sb G)), (2, .int (nI 160))] 375 [.int v]
        rw [if_pos (by decide), if_pos (by rw [List.length_append, lyH_l, lyB_l]; omega)] at hp
        obtain ⟨-, hC3⟩ := hp
        rw [List.append_assoc] at hC3
        refine tw_istore (L' := [(12, .int v), (11, .int (nI (bU G k))), (10, .int (nI k)), (9, .int (nI 40)), (8, .int (nI (lyP G))), (7, .int (nI (lyK G))), (6, .int (nI (lyL G))), (5, .int (nI (lyT G))), (4, .int (nI (cN G 1))), (3, .int (nI (cN G 0 % 161))), (0, .ref (tw_ad G 0)), (1, .ref (tw_sb G)), (2, .int (nI 160))]) C N dL_lays_375 (i := 12) (by decide) rfl ?_
        refine tw_iinc (k := 2) (v := nI (k + 1)) (L' := [(10, .int (nI (k + 1))), (12, .int v), (11, .int (nI (bU G k))), (9, .int (nI 40)), (8, .int (nI (lyP G))), (7, .int (nI (lyK G))), (6, .int (nI (lyL G))), (5, .int (nI (lyT G))), (4, .int (nI (cN G 1))), (3, .int (nI (cN G 0 % 161))), (0, .ref (tw_ad G 0)), (1, .ref (tw_sb G)), (2, .int (nI 160))]) C N dL_lays_377 rfl (tn_inc1 _) (by decide) rfl ?_
        refine tw_goto C dL_lays_380 (tgt := 208) (by decide) ?_
        refine TW.c (L' := [(10, .int (nI (k + 1))), (9, .int (nI 40)), (8, .int (nI (lyP G))), (7, .int (nI (lyK G))), (6, .int (nI (lyL G))), (5, .int (nI (lyT G))), (4, .int (nI (cN G 1))), (3, .int (nI (cN G 0 % 161))), (0, .ref (tw_ad G 0)), (1, .ref (tw_sb G)), (2, .int (nI 160))]) (by simp) ?_
        exact ih (k + 1) S3 (by omega) hC3
      have t329 : ¬ (lyK G = 17 ∧ cN G 1 % 2 = 0 ∧ k = 4) → ¬ (lyK G = 17 ∧ cN G 1 % 2 = 0 ∧ k = 5) → ¬ (lyK G = 17 ∧ k % 2 = 0 ∧ k < 4 ∧ 0 < cN G 1 / 2 ^ k / 2 % 2 * 2) → TW G X S2 [(11, .int (nI (bV G k))), (10, .int (nI k)), (9, .int (nI 40)), (8, .int (nI (lyP G))), (7, .int (nI (lyK G))), (6, .int (nI (lyL G))), (5, .int (nI (lyT G))), (4, .int (nI (cN G 1))), (3, .int (nI (cN G 0 % 161))), (0, .ref (tw_ad G 0)), (1, .ref (tw_sb G)), (2, .int (nI 160))] 329 [] := by
        intro n1 n2 n3
        refine tw_iload C dL_lays_329 4 rfl ?_
        refine tw_bipush C dL_lays_331 (v := nI 17) (by decide) ?_
        refine tn_icmp_ne C dL_lays_333 (tgt := 363) (by decide) (by omega) (by omega) (fun c1 => ?_) (fun c1 => ?_)
        · skip
          refine tw_iload C dL_lays_363 0 rfl ?_
          refine TW.ti (y := nI (bU G k)) (by congr 1; simp only [bU]; repeat (first | rw [if_pos (by omega)] | rw [if_neg (by omega)])) ?_
          exact t365
        · skip
          refine tw_iload C dL_lays_336 1 rfl ?_
          refine tw_iconst C dL_lays_338 (v := nI 4) (by decide) ?_
          refine tn_icmp_ge C dL_lays_339 (tgt := 363) (by decide) (by omega) (by omega) (fun c2 => ?_) (fun c2 => ?_)
          · skip
            refine tw_iload C dL_lays_363 0 rfl ?_
            refine TW.ti (y := nI (bU G k)) (by congr 1; simp only [bU]; repeat (first | rw [if_pos (by omega)] | rw [if_neg (by omega)])) ?_
            exact t365
          · skip
            refine tw_iload C dL_lays_342 7 rfl ?_
            refine tw_iconst C dL_lays_344 (v := nI 5) (by decide) ?_
            refine tw_ishr C dL_lays_345 (v := nI ((cN G 1) / 32)) (nI_shr (by omega) 5 (by decide)) ?_
            refine tw_iconst C dL_lays_346 (v := nI 1) (by decide) ?_
            refine tw_iand C dL_lays_347 (v := nI (((cN G 1) / 32) % 2)) (nI_andm 1 (by decide)) ?_
            refine tn_if_le C dL_lays_348 (tgt := 363) (by decide) (by omega) (fun c3 => ?_) (fun c3 => ?_)
            · skip
              refine tw_iload C dL_lays_363 0 rfl ?_
              refine TW.ti (y := nI (bU G k)) (by congr 1; simp only [bU]; repeat (first | rw [if_pos (by omega)] | rw [if_neg (by omega)])) ?_
              exact t365
            · skip
              refine tw_sipush C dL_lays_351 (v := nI 176) (by decide) ?_
              refine tw_iload C dL_lays_354 0 rfl ?_
              refine tw_bipush C dL_lays_356 (v := nI 15) (by decide) ?_
              refine tw_iand C dL_lays_358 (v := nI ((bV G k) % 16)) (nI_andm 4 (by decide)) ?_
              refine tw_ior C dL_lays_359 (v := nI (176 ||| ((bV G k) % 16))) (nI_or _ _) ?_
              refine tw_goto C dL_lays_360 (tgt := 365) (by decide) ?_
              refine TW.ti (y := nI (bU G k)) (by congr 1; simp only [bU]; repeat (first | rw [if_pos (by omega)] | rw [if_neg (by omega)])) ?_
              exact t365
      have t293 : ¬ (lyK G = 17 ∧ cN G 1 % 2 = 0 ∧ k = 4) → ¬ (lyK G = 17 ∧ cN G 1 % 2 = 0 ∧ k = 5) → TW G X S2 [(11, .int (nI (bV G k))), (10, .int (nI k)), (9, .int (nI 40)), (8, .int (nI (lyP G))), (7, .int (nI (lyK G))), (6, .int (nI (lyL G))), (5, .int (nI (lyT G))), (4, .int (nI (cN G 1))), (3, .int (nI (cN G 0 % 161))), (0, .ref (tw_ad G 0)), (1, .ref (tw_sb G)), (2, .int (nI 160))] 293 [] := by
        intro n1 n2
        refine tw_iload C dL_lays_293 4 rfl ?_
        refine tw_bipush C dL_lays_295 (v := nI 17) (by decide) ?_
        refine tn_icmp_ne C dL_lays_297 (tgt := 329) (by decide) (by omega) (by omega) (fun c1 => ?_) (fun c1 => ?_)
        · skip
          exact t329 n1 n2 (by omega)
        · skip
          refine tw_iload C dL_lays_300 1 rfl ?_
          refine tw_iconst C dL_lays_302 (v := nI 2) (by decide) ?_
          refine tw_irem C dL_lays_303 (by decide) (v := nI (k % 2)) (pk_rem (by omega) (by decide) (by decide)) ?_
          refine tn_if_ne C dL_lays_304 (tgt := 329) (by decide) (by omega) (fun c2 => ?_) (fun c2 => ?_)
          · skip
            exact t329 n1 n2 (by omega)
          · skip
            refine tw_iload C dL_lays_307 1 rfl ?_
            refine tw_iconst C dL_lays_309 (v := nI 4) (by decide) ?_
            refine tn_icmp_ge C dL_lays_310 (tgt := 329) (by decide) (by omega) (by omega) (fun c3 => ?_) (fun c3 => ?_)
            · skip
              exact t329 n1 n2 (by omega)
            · skip
              refine tw_iload C dL_lays_313 7 rfl ?_
              refine tw_iload C dL_lays_315 1 rfl ?_
              refine tw_ishr C dL_lays_317 (v := nI (cN G 1 / 2 ^ k)) (nI_shr (by omega) k (by omega)) ?_
              refine tw_iconst C dL_lays_318 (v := nI 2) (by decide) ?_
              refine tw_iand C dL_lays_319 (v := nI (cN G 1 / 2 ^ k / 2 % 2 * 2)) (by rw [nI_and, and2]) ?_
              refine tn_if_le C dL_lays_320 (tgt := 329) (by decide) (by omega) (fun c4 => ?_) (fun c4 => ?_)
              · skip
                exact t329 n1 n2 (by omega)
              · skip
                refine tw_sipush C dL_lays_323 (v := nI 240) (by decide) ?_
                refine tw_goto C dL_lays_326 (tgt := 365) (by decide) ?_
                refine TW.ti (y := nI (bU G k)) (by congr 1; simp only [bU]; repeat (first | rw [if_pos (by omega)] | rw [if_neg (by omega)])) ?_
                exact t365
      have t265 : ¬ (lyK G = 17 ∧ cN G 1 % 2 = 0 ∧ k = 4) → TW G X S2 [(11, .int (nI (bV G k))), (10, .int (nI k)), (9, .int (nI 40)), (8, .int (nI (lyP G))), (7, .int (nI (lyK G))), (6, .int (nI (lyL G))), (5, .int (nI (lyT G))), (4, .int (nI (cN G 1))), (3, .int (nI (cN G 0 % 161))), (0, .ref (tw_ad G 0)), (1, .ref (tw_sb G)), (2, .int (nI 160))] 265 [] := by
        intro n1
        refine tw_iload C dL_lays_265 4 rfl ?_
        refine tw_bipush C dL_lays_267 (v := nI 17) (by decide) ?_
        refine tn_icmp_ne C dL_lays_269 (tgt := 293) (by decide) (by omega) (by omega) (fun c1 => ?_) (fun c1 => ?_)
        · skip
          exact t293 n1 (by omega)
        · skip
          refine tw_iload C dL_lays_272 7 rfl ?_
          refine tw_iconst C dL_lays_274 (v := nI 2) (by decide) ?_
          refine tw_irem C dL_lays_275 (by decide) (v := nI ((cN G 1) % 2)) (pk_rem (by omega) (by decide) (by decide)) ?_
          refine tn_if_ne C dL_lays_276 (tgt := 293) (by decide) (by omega) (fun c2 => ?_) (fun c2 => ?_)
          · skip
            exact t293 n1 (by omega)
          · skip
            refine tw_iload C dL_lays_279 1 rfl ?_
            refine tw_iconst C dL_lays_281 (v := nI 5) (by decide) ?_
            refine tn_icmp_ne C dL_lays_282 (tgt := 293) (by decide) (by omega) (by omega) (fun c3 => ?_) (fun c3 => ?_)
            · skip
              exact t293 n1 (by omega)
            · skip
              refine tw_iload_n C dL_lays_285 8 rfl ?_
              refine tw_sipush C dL_lays_286 (v := nI 255) (by decide) ?_
              refine tw_iand C dL_lays_289 (v := nI ((cN G 0 % 161) % 256)) (nI_andm 8 (by decide)) ?_
              refine tw_goto C dL_lays_290 (tgt := 365) (by decide) ?_
              refine TW.ti (y := nI (bU G k)) (by congr 1; simp only [bU]; repeat (first | rw [if_pos (by omega)] | rw [if_neg (by omega)])) ?_
              exact t365
      refine tw_iload C dL_lays_208 0 rfl ?_
      refine tw_iload_n C dL_lays_210 7 rfl ?_
      refine tn_icmp_ge C dL_lays_211 (tgt := 383) (by decide) (by omega) (by omega) (fun c1 => ?_) (fun c1 => ?_)
      · exact absurd c1 (by omega)
      refine tw_aload_n C dL_lays_214 9 rfl ?_
      refine tw_bipush C dL_lays_215 (v := nI 6) (by decide) ?_
      refine tw_iload C dL_lays_217 0 rfl ?_
      refine tw_bipush C dL_lays_219 (v := nI 40) (by decide) ?_
      refine tw_irem C dL_lays_221 (by decide) (v := nI (k % 40)) (pk_rem (by omega) (by decide) (by decide)) ?_
      refine tw_iadd C dL_lays_222 (v := nI (6 + (k % 40))) (nI_add _ _) ?_
      refine tw_callS (As := [.ref (tw_sb G), .int (nI (6 + (k % 40)))]) (rest := []) C N (c_L_cell hsn (S := S2) (k := 6 + (k % 40)) (by omega)) mm_L_cell wd_106 rfl (by decide) rfl (Nat.le_of_ble_eq_true rfl) dL_lays_223 ?_
      rintro _ _ ⟨rfl, rfl⟩
      show TW G X S2 [(10, .int (nI k)), (9, .int (nI 40)), (8, .int (nI (lyP G))), (7, .int (nI (lyK G))), (6, .int (nI (lyL G))), (5, .int (nI (lyT G))), (4, .int (nI (cN G 1))), (3, .int (nI (cN G 0 % 161))), (0, .ref (tw_ad G 0)), (1, .ref (tw_sb G)), (2, .int (nI 160))] 226 [.int (nI (cN G (6 + (k % 40))))]
      refine tw_iload C dL_lays_226 0 rfl ?_
      refine tw_bipush C dL_lays_228 (v := nI 23) (by decide) ?_
      refine tw_irem C dL_lays_230 (by decide) (v := nI (k % 23)) (pk_rem (by omega) (by decide) (by decide)) ?_
      refine tw_ishr C dL_lays_231 (v := nI (cN G (6 + k % 40) / 2 ^ (k % 23))) (nI_shr (by have := cN_lt G (6 + k % 40); omega) (k % 23) (by omega)) ?_
      refine tw_sipush C dL_lays_232 (v := nI 255) (by decide) ?_
      refine tw_iand C dL_lays_235 (v := nI (bV G k)) (nI_andm 8 (by decide)) ?_
      refine tw_istore (L' := [(11, .int (nI (bV G k))), (10, .int (nI k)), (9, .int (nI 40)), (8, .int (nI (lyP G))), (7, .int (nI (lyK G))), (6, .int (nI (lyL G))), (5, .int (nI (lyT G))), (4, .int (nI (cN G 1))), (3, .int (nI (cN G 0 % 161))), (0, .ref (tw_ad G 0)), (1, .ref (tw_sb G)), (2, .int (nI 160))]) C N dL_lays_236 (i := 11) (by decide) rfl ?_
      refine tw_iload C dL_lays_238 4 rfl ?_
      refine tw_bipush C dL_lays_240 (v := nI 17) (by decide) ?_
      refine tn_icmp_ne C dL_lays_242 (tgt := 265) (by decide) (by omega) (by omega) (fun c3 => ?_) (fun c3 => ?_)
      · skip
        exact t265 (by omega)
      · skip
        refine tw_iload C dL_lays_245 7 rfl ?_
        refine tw_iconst C dL_lays_247 (v := nI 2) (by decide) ?_
        refine tw_irem C dL_lays_248 (by decide) (v := nI ((cN G 1) % 2)) (pk_rem (by omega) (by decide) (by decide)) ?_
        refine tn_if_ne C dL_lays_249 (tgt := 265) (by decide) (by omega) (fun c4 => ?_) (fun c4 => ?_)
        · skip
          exact t265 (by omega)
        · skip
          refine tw_iload C dL_lays_252 1 rfl ?_
          refine tw_iconst C dL_lays_254 (v := nI 4) (by decide) ?_
          refine tn_icmp_ne C dL_lays_255 (tgt := 265) (by decide) (by omega) (by omega) (fun c5 => ?_) (fun c5 => ?_)
          · skip
            exact t265 (by omega)
          · skip
            refine tw_iload_n C dL_lays_258 8 rfl ?_
            refine tw_bipush C dL_lays_259 (v := nI 8) (by decide) ?_
            refine tw_ishr C dL_lays_261 (v := nI ((cN G 0 % 161) / 256)) (nI_shr (by omega) 8 (by decide)) ?_
            refine tw_goto C dL_lays_262 (tgt := 365) (by decide) ?_
            refine TW.ti (y := nI (bU G k)) (by congr 1; simp only [bU]; repeat (first | rw [if_pos (by omega)] | rw [if_neg (by omega)])) ?_
            exact t365
  have t154 : TW G X S [(7, .int (nI (lyK G))), (6, .int (nI (lyL G))), (5, .int (nI (lyT G))), (4, .int (nI (cN G 1))), (3, .int (nI (cN G 0 % 161))), (0, .ref (tw_ad G 0)), (1, .ref (tw_sb G)), (2, .int (nI 160))] 154 [.int (nI (lyP G))] := by
    refine tw_istore (L' := [(8, .int (nI (lyP G))), (7, .int (nI (lyK G))), (6, .int (nI (lyL G))), (5, .int (nI (lyT G))), (4, .int (nI (cN G 1))), (3, .int (nI (cN G 0 % 161))), (0, .ref (tw_ad G 0)), (1, .ref (tw_sb G)), (2, .int (nI 160))]) C N dL_lays_154 (i := 8) (by decide) rfl ?_
    refine tw_aload_n C dL_lays_156 6 rfl ?_
    refine tw_iload C dL_lays_157 3 rfl ?_
    refine tw_iload C dL_lays_159 2 rfl ?_
    refine tw_iload_n C dL_lays_161 5 rfl ?_
    refine tw_iload C dL_lays_162 1 rfl ?_
    refine tw_iload C dL_lays_164 0 rfl ?_
    refine tw_aload_n C dL_lays_166 7 rfl ?_
    refine tw_iconst C dL_lays_167 (v := nI 2) (by decide) ?_
    refine tw_callS (As := [.ref (tw_sb G), .int (nI 2)]) (rest := [.int (nI (lyP G)), .int (nI (lyK G)), .int (nI (cN G 0 % 161)), .int (nI (lyL G)), .int (nI (lyT G)), .ref (tw_ad G 0)]) C N (c_L_cell hsn (S := S) (k := 2) (by omega)) mm_L_cell wd_106 rfl (by decide) rfl (Nat.le_of_ble_eq_true rfl) dL_lays_168 ?_
    rintro _ _ ⟨rfl, rfl⟩
    show TW G X S [(8, .int (nI (lyP G))), (7, .int (nI (lyK G))), (6, .int (nI (lyL G))), (5, .int (nI (lyT G))), (4, .int (nI (cN G 1))), (3, .int (nI (cN G 0 % 161))), (0, .ref (tw_ad G 0)), (1, .ref (tw_sb G)), (2, .int (nI 160))] 171 [.int (nI (cN G 2)), .int (nI (lyP G)), .int (nI (lyK G)), .int (nI (cN G 0 % 161)), .int (nI (lyL G)), .int (nI (lyT G)), .ref (tw_ad G 0)]
    refine tw_callS (As := [.int (nI (cN G 2))]) (rest := [.int (nI (lyP G)), .int (nI (lyK G)), .int (nI (cN G 0 % 161)), .int (nI (lyL G)), .int (nI (lyT G)), .ref (tw_ad G 0)]) C N (c_L_first (S := S) (x := cN G 2) (cN_lt _ _)) mm_L_first wd_145 rfl (by decide) rfl (Nat.le_of_ble_eq_true rfl) dL_lays_171 ?_
    rintro _ _ ⟨rfl, rfl⟩
    show TW G X S [(8, .int (nI (lyP G))), (7, .int (nI (lyK G))), (6, .int (nI (lyL G))), (5, .int (nI (lyT G))), (4, .int (nI (cN G 1))), (3, .int (nI (cN G 0 % 161))), (0, .ref (tw_ad G 0)), (1, .ref (tw_sb G)), (2, .int (nI 160))] 174 [.long (lN (fU (cN G 2))), .int (nI (lyP G)), .int (nI (lyK G)), .int (nI (cN G 0 % 161)), .int (nI (lyL G)), .int (nI (lyT G)), .ref (tw_ad G 0)]
    refine tw_aload_n C dL_lays_174 7 rfl ?_
    refine tw_iconst C dL_lays_175 (v := nI 3) (by decide) ?_
    refine tw_callS (As := [.ref (tw_sb G), .int (nI 3)]) (rest := [.long (lN (fU (cN G 2))), .int (nI (lyP G)), .int (nI (lyK G)), .int (nI (cN G 0 % 161)), .int (nI (lyL G)), .int (nI (lyT G)), .ref (tw_ad G 0)]) C N (c_L_cell hsn (S := S) (k := 3) (by omega)) mm_L_cell wd_106 rfl (by decide) rfl (Nat.le_of_ble_eq_true rfl) dL_lays_176 ?_
    rintro _ _ ⟨rfl, rfl⟩
    show TW G X S [(8, .int (nI (lyP G))), (7, .int (nI (lyK G))), (6, .int (nI (lyL G))), (5, .int (nI (lyT G))), (4, .int (nI (cN G 1))), (3, .int (nI (cN G 0 % 161))), (0, .ref (tw_ad G 0)), (1, .ref (tw_sb G)), (2, .int (nI 160))] 179 [.int (nI (cN G 3)), .long (lN (fU (cN G 2))), .int (nI (lyP G)), .int (nI (lyK G)), .int (nI (cN G 0 % 161)), .int (nI (lyL G)), .int (nI (lyT G)), .ref (tw_ad G 0)]
    refine tw_iconst C dL_lays_179 (v := nI 0) (by decide) ?_
    refine tw_callS (As := [.int (nI (cN G 3)), .int (nI 0)]) (rest := [.long (lN (fU (cN G 2))), .int (nI (lyP G)), .int (nI (lyK G)), .int (nI (cN G 0 % 161)), .int (nI (lyL G)), .int (nI (lyT G)), .ref (tw_ad G 0)]) C N (c_L_second (S := S) (x := cN G 3) (w := 0) (cN_lt _ _) (by decide)) mm_L_second wd_150 rfl (by decide) rfl (Nat.le_of_ble_eq_true rfl) dL_lays_180 ?_
    rintro _ _ ⟨rfl, rfl⟩
    show TW G X S [(8, .int (nI (lyP G))), (7, .int (nI (lyK G))), (6, .int (nI (lyL G))), (5, .int (nI (lyT G))), (4, .int (nI (cN G 1))), (3, .int (nI (cN G 0 % 161))), (0, .ref (tw_ad G 0)), (1, .ref (tw_sb G)), (2, .int (nI 160))] 183 [.long (lN (sU (cN G 3) 0)), .long (lN (fU (cN G 2))), .int (nI (lyP G)), .int (nI (lyK G)), .int (nI (cN G 0 % 161)), .int (nI (lyL G)), .int (nI (lyT G)), .ref (tw_ad G 0)]
    refine tw_aload_n C dL_lays_183 7 rfl ?_
    refine tw_iconst C dL_lays_184 (v := nI 4) (by decide) ?_
    refine tw_callSD (As := [.ref (tw_sb G), .int (nI 4)]) (rest := [.long (lN (sU (cN G 3) 0)), .long (lN (fU (cN G 2))), .int (nI (lyP G)), .int (nI (lyK G)), .int (nI (cN G 0 % 161)), .int (nI (lyL G)), .int (nI (lyT G)), .ref (tw_ad G 0)]) C N (c_L_cell hsn (S := S) (k := 4) (by omega)) mm_L_cell wd_106 rfl (by decide) rfl (Nat.le_of_ble_eq_true rfl) dL_lays_185 ?_
    rintro _ _ ⟨rfl, rfl⟩
    show TW G X S [(8, .int (nI (lyP G))), (7, .int (nI (lyK G))), (6, .int (nI (lyL G))), (5, .int (nI (lyT G))), (4, .int (nI (cN G 1))), (3, .int (nI (cN G 0 % 161))), (0, .ref (tw_ad G 0)), (1, .ref (tw_sb G)), (2, .int (nI 160))] 188 [.int (nI (cN G 4)), .long (lN (sU (cN G 3) 0)), .long (lN (fU (cN G 2))), .int (nI (lyP G)), .int (nI (lyK G)), .int (nI (cN G 0 % 161)), .int (nI (lyL G)), .int (nI (lyT G)), .ref (tw_ad G 0)]
    refine tw_callSD (As := [.int (nI (cN G 4))]) (rest := [.long (lN (sU (cN G 3) 0)), .long (lN (fU (cN G 2))), .int (nI (lyP G)), .int (nI (lyK G)), .int (nI (cN G 0 % 161)), .int (nI (lyL G)), .int (nI (lyT G)), .ref (tw_ad G 0)]) C N (c_L_first (S := S) (x := cN G 4) (cN_lt _ _)) mm_L_first wd_145 rfl (by decide) rfl (Nat.le_of_ble_eq_true rfl) dL_lays_188 ?_
    rintro _ _ ⟨rfl, rfl⟩
    show TW G X S [(8, .int (nI (lyP G))), (7, .int (nI (lyK G))), (6, .int (nI (lyL G))), (5, .int (nI (lyT G))), (4, .int (nI (cN G 1))), (3, .int (nI (cN G 0 % 161))), (0, .ref (tw_ad G 0)), (1, .ref (tw_sb G)), (2, .int (nI 160))] 191 [.long (lN (fU (cN G 4))), .long (lN (sU (cN G 3) 0)), .long (lN (fU (cN G 2))), .int (nI (lyP G)), .int (nI (lyK G)), .int (nI (cN G 0 % 161)), .int (nI (lyL G)), .int (nI (lyT G)), .ref (tw_ad G 0)]
    refine tw_aload_n C dL_lays_191 7 rfl ?_
    refine tw_iconst C dL_lays_192 (v := nI 5) (by decide) ?_
    refine tw_callSD (As := [.ref (tw_sb G), .int (nI 5)]) (rest := [.long (lN (fU (cN G 4))), .long (lN (sU (cN G 3) 0)), .long (lN (fU (cN G 2))), .int (nI (lyP G)), .int (nI (lyK G)), .int (nI (cN G 0 % 161)), .int (nI (lyL G)), .int (nI (lyT G)), .ref (tw_ad G 0)]) C N (c_L_cell hsn (S := S) (k := 5) (by omega)) mm_L_cell wd_106 rfl (by decide) rfl (Nat.le_of_ble_eq_true rfl) dL_lays_193 ?_
    rintro _ _ ⟨rfl, rfl⟩
    show TW G X S [(8, .int (nI (lyP G))), (7, .int (nI (lyK G))), (6, .int (nI (lyL G))), (5, .int (nI (lyT G))), (4, .int (nI (cN G 1))), (3, .int (nI (cN G 0 % 161))), (0, .ref (tw_ad G 0)), (1, .ref (tw_sb G)), (2, .int (nI 160))] 196 [.int (nI (cN G 5)), .long (lN (fU (cN G 4))), .long (lN (sU (cN G 3) 0)), .long (lN (fU (cN G 2))), .int (nI (lyP G)), .int (nI (lyK G)), .int (nI (cN G 0 % 161)), .int (nI (lyL G)), .int (nI (lyT G)), .ref (tw_ad G 0)]
    refine tw_iconst C dL_lays_196 (v := nI 1) (by decide) ?_
    refine tw_callSD (As := [.int (nI (cN G 5)), .int (nI 1)]) (rest := [.long (lN (fU (cN G 4))), .long (lN (sU (cN G 3) 0)), .long (lN (fU (cN G 2))), .int (nI (lyP G)), .int (nI (lyK G)), .int (nI (cN G 0 % 161)), .int (nI (lyL G)), .int (nI (lyT G)), .ref (tw_ad G 0)]) C N (c_L_second (S := S) (x := cN G 5) (w := 1) (cN_lt _ _) (by decide)) mm_L_second wd_150 rfl (by decide) rfl (Nat.le_of_ble_eq_true rfl) dL_lays_197 ?_
    rintro _ _ ⟨rfl, rfl⟩
    show TW G X S [(8, .int (nI (lyP G))), (7, .int (nI (lyK G))), (6, .int (nI (lyL G))), (5, .int (nI (lyT G))), (4, .int (nI (cN G 1))), (3, .int (nI (cN G 0 % 161))), (0, .ref (tw_ad G 0)), (1, .ref (tw_sb G)), (2, .int (nI 160))] 200 [.long (lN (sU (cN G 5) 1)), .long (lN (fU (cN G 4))), .long (lN (sU (cN G 3) 0)), .long (lN (fU (cN G 2))), .int (nI (lyP G)), .int (nI (lyK G)), .int (nI (cN G 0 % 161)), .int (nI (lyL G)), .int (nI (lyT G)), .ref (tw_ad G 0)]
    refine tw_callV (As := [.int (nI (lyT G)), .int (nI (lyL G)), .int (nI (cN G 0 % 161)), .int (nI (lyK G)), .int (nI (lyP G)), .long (lN (fU (cN G 2))), .long (lN (sU (cN G 3) 0)), .long (lN (fU (cN G 4))), .long (lN (sU (cN G 5) 1))]) (rest := []) C N (c_X10_head hG (S := S) hC (t := lyT G) (l := lyL G) (m := cN G 0 % 161) (kd := lyK G) (hp := lyP G) (by omega) (by omega) (by omega) (by omega) (by omega) (a1 := fU (cN G 2)) (a2 := sU (cN G 3) 0) (a3 := fU (cN G 4)) (a4 := sU (cN G 5) 1) (fU_lt (cN_lt _ _)) (sU_lt (cN_lt _ _) (by decide)) (fU_lt (cN_lt _ _)) (sU_lt (cN_lt _ _) (by decide))) mm_X10_head wd_157 rfl (hG 0 (by decide)) sh_0 rfl (by decide) rfl (Nat.le_of_ble_eq_true rfl) dL_lays_200 ?_
    rintro v S2 hp
    show TW G X S2 [(8, .int (nI (lyP G))), (7, .int (nI (lyK G))), (6, .int (nI (lyL G))), (5, .int (nI (lyT G))), (4, .int (nI (cN G 1))), (3, .int (nI (cN G 0 % 161))), (0, .ref (tw_ad G 0)), (1, .ref (tw_sb G)), (2, .int (nI 160))] 203 [.int v]
    rw [if_pos ⟨by omega, by omega, by omega, by omega, by omega⟩, if_pos (by rw [List.length_nil]; decide)] at hp
    obtain ⟨hv, hC2⟩ := hp
    refine TW.ti (y := nI 40) (hv.trans (congrArg nI hle)) ?_
    refine tw_istore (L' := [(9, .int (nI 40)), (8, .int (nI (lyP G))), (7, .int (nI (lyK G))), (6, .int (nI (lyL G))), (5, .int (nI (lyT G))), (4, .int (nI (cN G 1))), (3, .int (nI (cN G 0 % 161))), (0, .ref (tw_ad G 0)), (1, .ref (tw_sb G)), (2, .int (nI 160))]) C N dL_lays_203 (i := 9) (by decide) rfl ?_
    refine tw_iconst C dL_lays_205 (v := nI 0) (by decide) ?_
    refine tw_istore (L' := [(10, .int (nI 0)), (9, .int (nI 40)), (8, .int (nI (lyP G))), (7, .int (nI (lyK G))), (6, .int (nI (lyL G))), (5, .int (nI (lyT G))), (4, .int (nI (cN G 1))), (3, .int (nI (cN G 0 % 161))), (0, .ref (tw_ad G 0)), (1, .ref (tw_sb G)), (2, .int (nI 160))]) C N dL_lays_206 (i := 10) (by decide) rfl ?_
    exact loop (cN G 0 % 161) 0 S2 (by omega) (by rw [show lyB G 0 = [] from rfl, List.append_nil]; exact hC2)
  have t100 : TW G X S [(6, .int (nI (lyL G))), (5, .int (nI (lyT G))), (4, .int (nI (cN G 1))), (3, .int (nI (cN G 0 % 161))), (0, .ref (tw_ad G 0)), (1, .ref (tw_sb G)), (2, .int (nI 160))] 100 [.int (nI (lyK G))] := by
    refine tw_istore (L' := [(7, .int (nI (lyK G))), (6, .int (nI (lyL G))), (5, .int (nI (lyT G))), (4, .int (nI (cN G 1))), (3, .int (nI (cN G 0 % 161))), (0, .ref (tw_ad G 0)), (1, .ref (tw_sb G)), (2, .int (nI 160))]) C N dL_lays_100 (i := 7) (by decide) rfl ?_
    refine tw_iload C dL_lays_102 3 rfl ?_
    refine tw_bipush C dL_lays_104 (v := nI 11) (by decide) ?_
    refine tw_irem C dL_lays_106 (by decide) (v := nI ((cN G 1) % 11)) (pk_rem (by omega) (by decide) (by decide)) ?_
    refine tw_iconst C dL_lays_107 (v := nI 2) (by decide) ?_
    refine tn_icmp_ge C dL_lays_108 (tgt := 115) (by decide) (by omega) (by omega) (fun c1 => ?_) (fun c1 => ?_)
    · skip
      refine tw_iload C dL_lays_115 3 rfl ?_
      refine tw_bipush C dL_lays_117 (v := nI 11) (by decide) ?_
      refine tw_irem C dL_lays_119 (by decide) (v := nI ((cN G 1) % 11)) (pk_rem (by omega) (by decide) (by decide)) ?_
      refine tw_iconst C dL_lays_120 (v := nI 4) (by decide) ?_
      refine tn_icmp_ge C dL_lays_121 (tgt := 129) (by decide) (by omega) (by omega) (fun c2 => ?_) (fun c2 => ?_)
      · skip
        refine tw_iload C dL_lays_129 3 rfl ?_
        refine tw_bipush C dL_lays_131 (v := nI 11) (by decide) ?_
        refine tw_irem C dL_lays_133 (by decide) (v := nI ((cN G 1) % 11)) (pk_rem (by omega) (by decide) (by decide)) ?_
        refine tw_bipush C dL_lays_134 (v := nI 6) (by decide) ?_
        refine tn_icmp_ge C dL_lays_136 (tgt := 145) (by decide) (by omega) (by omega) (fun c3 => ?_) (fun c3 => ?_)
        · skip
          refine tw_iload C dL_lays_145 3 rfl ?_
          refine tw_bipush C dL_lays_147 (v := nI 10) (by decide) ?_
          refine tw_ishr C dL_lays_149 (v := nI ((cN G 1) / 1024)) (nI_shr (by omega) 10 (by decide)) ?_
          refine tw_sipush C dL_lays_150 (v := nI 255) (by decide) ?_
          refine tw_iand C dL_lays_153 (v := nI (((cN G 1) / 1024) % 256)) (nI_andm 8 (by decide)) ?_
          refine TW.ti (y := nI (lyP G)) (by congr 1; simp only [lyP]; repeat (first | rw [if_pos (by omega)] | rw [if_neg (by omega)])) ?_
          exact t154
        · skip
          refine tw_sipush C dL_lays_139 (v := nI 255) (by decide) ?_
          refine tw_goto C dL_lays_142 (tgt := 154) (by decide) ?_
          refine TW.ti (y := nI (lyP G)) (by congr 1; simp only [lyP]; repeat (first | rw [if_pos (by omega)] | rw [if_neg (by omega)])) ?_
          exact t154
      · skip
        refine tw_bipush C dL_lays_124 (v := nI 64) (by decide) ?_
        refine tw_goto C dL_lays_126 (tgt := 154) (by decide) ?_
        refine TW.ti (y := nI (lyP G)) (by congr 1; simp only [lyP]; repeat (first | rw [if_pos (by omega)] | rw [if_neg (by omega)])) ?_
        exact t154
    · skip
      refine tw_iconst C dL_lays_111 (v := nI 1) (by decide) ?_
      refine tw_goto C dL_lays_112 (tgt := 154) (by decide) ?_
      refine TW.ti (y := nI (lyP G)) (by congr 1; simp only [lyP]; repeat (first | rw [if_pos (by omega)] | rw [if_neg (by omega)])) ?_
      exact t154
  have t75 : TW G X S [(5, .int (nI (lyT G))), (4, .int (nI (cN G 1))), (3, .int (nI (cN G 0 % 161))), (0, .ref (tw_ad G 0)), (1, .ref (tw_sb G)), (2, .int (nI 160))] 75 [.int (nI (lyL G))] := by
    refine tw_istore (L' := [(6, .int (nI (lyL G))), (5, .int (nI (lyT G))), (4, .int (nI (cN G 1))), (3, .int (nI (cN G 0 % 161))), (0, .ref (tw_ad G 0)), (1, .ref (tw_sb G)), (2, .int (nI 160))]) C N dL_lays_75 (i := 6) (by decide) rfl ?_
    refine tw_iload C dL_lays_77 2 rfl ?_
    refine tw_bipush C dL_lays_79 (v := nI 7) (by decide) ?_
    refine tw_irem C dL_lays_81 (by decide) (v := nI ((cN G 1) % 7)) (pk_rem (by omega) (by decide) (by decide)) ?_
    refine tw_iconst C dL_lays_82 (v := nI 3) (by decide) ?_
    refine tn_icmp_ge C dL_lays_83 (tgt := 91) (by decide) (by omega) (by omega) (fun c1 => ?_) (fun c1 => ?_)
    · skip
      refine tw_iload C dL_lays_91 2 rfl ?_
      refine tw_bipush C dL_lays_93 (v := nI 9) (by decide) ?_
      refine tw_ishr C dL_lays_95 (v := nI ((cN G 1) / 512)) (nI_shr (by omega) 9 (by decide)) ?_
      refine tw_sipush C dL_lays_96 (v := nI 255) (by decide) ?_
      refine tw_iand C dL_lays_99 (v := nI (((cN G 1) / 512) % 256)) (nI_andm 8 (by decide)) ?_
      refine TW.ti (y := nI (lyK G)) (by congr 1; simp only [lyK]; repeat (first | rw [if_pos (by omega)] | rw [if_neg (by omega)])) ?_
      exact t100
    · skip
      refine tw_bipush C dL_lays_86 (v := nI 17) (by decide) ?_
      refine tw_goto C dL_lays_88 (tgt := 100) (by decide) ?_
      refine TW.ti (y := nI (lyK G)) (by congr 1; simp only [lyK]; repeat (first | rw [if_pos (by omega)] | rw [if_neg (by omega)])) ?_
      exact t100
  have t53 : TW G X S [(4, .int (nI (cN G 1))), (3, .int (nI (cN G 0 % 161))), (0, .ref (tw_ad G 0)), (1, .ref (tw_sb G)), (2, .int (nI 160))] 53 [.int (nI (lyT G))] := by
    refine tw_istore (L' := [(5, .int (nI (lyT G))), (4, .int (nI (cN G 1))), (3, .int (nI (cN G 0 % 161))), (0, .ref (tw_ad G 0)), (1, .ref (tw_sb G)), (2, .int (nI 160))]) C N dL_lays_53 (i := 5) (by decide) rfl ?_
    refine tw_iload C dL_lays_55 1 rfl ?_
    refine tw_iconst C dL_lays_57 (v := nI 5) (by decide) ?_
    refine tw_irem C dL_lays_58 (by decide) (v := nI ((cN G 1) % 5)) (pk_rem (by omega) (by decide) (by decide)) ?_
    refine tw_iconst C dL_lays_59 (v := nI 2) (by decide) ?_
    refine tn_icmp_ge C dL_lays_60 (tgt := 67) (by decide) (by omega) (by omega) (fun c1 => ?_) (fun c1 => ?_)
    · skip
      refine tw_iload C dL_lays_67 1 rfl ?_
      refine tw_bipush C dL_lays_69 (v := nI 6) (by decide) ?_
      refine tw_ishr C dL_lays_71 (v := nI ((cN G 1) / 64)) (nI_shr (by omega) 6 (by decide)) ?_
      refine tw_ldc C dL_lays_72 wd_144 (w := nI 1048575) (by decide) ?_
      refine tw_iand C dL_lays_74 (v := nI (((cN G 1) / 64) % 1048576)) (nI_andm 20 (by decide)) ?_
      refine TW.ti (y := nI (lyL G)) (by congr 1; simp only [lyL]; repeat (first | rw [if_pos (by omega)] | rw [if_neg (by omega)])) ?_
      exact t75
    · skip
      refine tw_iconst C dL_lays_63 (v := nI 0) (by decide) ?_
      refine tw_goto C dL_lays_64 (tgt := 75) (by decide) ?_
      refine TW.ti (y := nI (lyL G)) (by congr 1; simp only [lyL]; repeat (first | rw [if_pos (by omega)] | rw [if_neg (by omega)])) ?_
      exact t75
  refine tw_aload_n C dL_lays_0 1 rfl ?_
  refine tw_iconst C dL_lays_1 (v := nI 0) (by decide) ?_
  refine tw_callS (As := [.ref (tw_sb G), .int (nI 0)]) (rest := []) C N (c_L_cell hsn (S := S) (k := 0) (by omega)) mm_L_cell wd_106 rfl (by decide) rfl (Nat.le_of_ble_eq_true rfl) dL_lays_2 ?_
  rintro _ _ ⟨rfl, rfl⟩
  show TW G X S [(0, .ref (tw_ad G 0)), (1, .ref (tw_sb G)), (2, .int (nI 160))] 5 [.int (nI (cN G 0))]
  refine tw_iload_n C dL_lays_5 2 rfl ?_
  refine tw_iconst C dL_lays_6 (v := nI 1) (by decide) ?_
  refine tw_iadd C dL_lays_7 (v := nI 161) (nI_add _ _) ?_
  refine tw_irem C dL_lays_8 (by decide) (v := nI ((cN G 0) % 161)) (pk_rem (by omega) (by decide) (by decide)) ?_
  refine tw_istore_n (L' := [(3, .int (nI ((cN G 0) % 161))), (0, .ref (tw_ad G 0)), (1, .ref (tw_sb G)), (2, .int (nI 160))]) C N dL_lays_9 rfl (by decide) rfl ?_
  refine tw_aload_n C dL_lays_10 2 rfl ?_
  refine tw_iconst C dL_lays_11 (v := nI 1) (by decide) ?_
  refine tw_callS (As := [.ref (tw_sb G), .int (nI 1)]) (rest := []) C N (c_L_cell hsn (S := S) (k := 1) (by omega)) mm_L_cell wd_106 rfl (by decide) rfl (Nat.le_of_ble_eq_true rfl) dL_lays_12 ?_
  rintro _ _ ⟨rfl, rfl⟩
  show TW G X S [(3, .int (nI ((cN G 0) % 161))), (0, .ref (tw_ad G 0)), (1, .ref (tw_sb G)), (2, .int (nI 160))] 15 [.int (nI (cN G 1))]
  refine tw_istore (L' := [(4, .int (nI (cN G 1))), (3, .int (nI ((cN G 0) % 161))), (0, .ref (tw_ad G 0)), (1, .ref (tw_sb G)), (2, .int (nI 160))]) C N dL_lays_15 (i := 4) (by decide) rfl ?_
  refine tw_iload C dL_lays_17 0 rfl ?_
  refine tw_iconst C dL_lays_19 (v := nI 3) (by decide) ?_
  refine tw_irem C dL_lays_20 (by decide) (v := nI ((cN G 1) % 3)) (pk_rem (by omega) (by decide) (by decide)) ?_
  refine tn_if_ne C dL_lays_21 (tgt := 28) (by decide) (by omega) (fun c3 => ?_) (fun c3 => ?_)
  · skip
    refine tw_iload C dL_lays_28 0 rfl ?_
    refine tw_iconst C dL_lays_30 (v := nI 3) (by decide) ?_
    refine tw_irem C dL_lays_31 (by decide) (v := nI ((cN G 1) % 3)) (pk_rem (by omega) (by decide) (by decide)) ?_
    refine tw_iconst C dL_lays_32 (v := nI 1) (by decide) ?_
    refine tn_icmp_ne C dL_lays_33 (tgt := 45) (by decide) (by omega) (by omega) (fun c4 => ?_) (fun c4 => ?_)
    · skip
      refine tw_iload C dL_lays_45 0 rfl ?_
      refine tw_iconst C dL_lays_47 (v := nI 4) (by decide) ?_
      refine tw_ishr C dL_lays_48 (v := nI ((cN G 1) / 16)) (nI_shr (by omega) 4 (by decide)) ?_
      refine tw_sipush C dL_lays_49 (v := nI 255) (by decide) ?_
      refine tw_iand C dL_lays_52 (v := nI (((cN G 1) / 16) % 256)) (nI_andm 8 (by decide)) ?_
      refine TW.ti (y := nI (lyT G)) (by congr 1; simp only [lyT]; repeat (first | rw [if_pos (by omega)] | rw [if_neg (by omega)])) ?_
      exact t53
    · skip
      refine tw_iload C dL_lays_36 0 rfl ?_
      refine tw_iconst C dL_lays_38 (v := nI 4) (by decide) ?_
      refine tw_ishr C dL_lays_39 (v := nI ((cN G 1) / 16)) (nI_shr (by omega) 4 (by decide)) ?_
      refine tw_iconst C dL_lays_40 (v := nI 3) (by decide) ?_
      refine tw_iand C dL_lays_41 (v := nI (((cN G 1) / 16) % 4)) (nI_andm 2 (by decide)) ?_
      refine tw_goto C dL_lays_42 (tgt := 53) (by decide) ?_
      refine TW.ti (y := nI (lyT G)) (by congr 1; simp only [lyT]; repeat (first | rw [if_pos (by omega)] | rw [if_neg (by omega)])) ?_
      exact t53
  · skip
    refine tw_iconst C dL_lays_24 (v := nI 0) (by decide) ?_
    refine tw_goto C dL_lays_25 (tgt := 53) (by decide) ?_
    refine TW.ti (y := nI (lyT G)) (by congr 1; simp only [lyT]; repeat (first | rw [if_pos (by omega)] | rw [if_neg (by omega)])) ?_
    exact t53
