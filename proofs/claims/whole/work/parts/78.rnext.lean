/-- when no piece is wanted -/
theorem k_next {G : GX} {S : Shp} {I0 I : Mem} {b : Nat → Int32} {d n key p : Nat} {r : Option (List Int32 × Nat)} {m : MS} {x4 : Option Value} (hsh : SHP S) (hn : n ≤ 96) (hd : 4 ≤ d) (hw : m.2.2.2.1 = false) (h : MR key b n m I) (hf : FrE I0 I)
    (nx : ∀ m' I' x4', mst key b n m = .inl m' → MR key b n m' I' → FrE I0 I' → PW G RX9 "takesE" cX9_takesE 5 (some .boolean) d 0 0 (TEQ S I0 r p) 28 (lsE m' x4') [] S I')
    (sp : ∀ r', mst key b n m = .inr r' → r = r' ∧ p = m.1.2.1) : PW G RX9 "takesE" cX9_takesE 5 (some .boolean) d 0 0 (TEQ S I0 r p) 28 (lsE m x4) [] S I := by
  obtain ⟨x, C, Z, wn, L, a⟩ := m
  have hw : wn = false := hw
  subst hw
  obtain ⟨g, hx, h12, hC, hZ, ⟨hT, hTl⟩, h17, hl, h8, hwf, hnn⟩ := h
  dsimp only at g hx h12 hC hZ hT hTl h17 hl h8 hwf hnn
  have hnn := hnn rfl
  obtain ⟨t, td, rfl⟩ : ∃ t td, L = t :: td := by
    cases L with
    | nil => exact absurd hTl (by show ¬ 0 = _; omega)
    | cons t td => exact ⟨t, td, rfl⟩
  have hTl : td.length = cnt (-11) Z := by
    have z : td.length + 1 = cnt (-11) Z + 1 := hTl
    omega
  obtain ⟨hT0, hT1⟩ := hT
  rw [hTl] at hT0
  obtain ⟨⟨⟨h6, hb⟩, h7, hE1, hE3⟩, h8f, h9, h10, h10n⟩ := id g
  have w1 := hx.1
  have w2 := hx.2.1
  have w3 := hx.2.2.1
  have t4 := tk_4 w1
  have c10 := cnt_le (-10) Z
  have c11 := cnt_le (-11) Z
  show PW G _ _ _ _ _ d 0 0 _ 28 [some (.ref 55), some (.int (nI (cnt (-11) Z))), some (.int (nI (cnt (-10) Z))), some (.int 0), x4] [] S I
  by_cases q0 : x.1 = 0
  · have e9 : I 55 9 = 0 := by rw [h9, tk_0.mpr q0]; rfl
    by_cases qc : cnt (-11) Z = 0
    · obtain ⟨rfl, rfl⟩ := sp _ (mst_e1 q0 qc)
      refine P_iload3 (pc' := 29) dX9_takesE_28 rfl ?_
      refine P_if_ne (tgt := 39) (pc' := 32) dX9_takesE_29 rfl rfl (fun h29 => ?_) (fun h29 => ?_)
      · exact absurd rfl h29
      · refine P_aload0 (pc' := 33) dX9_takesE_32 rfl ?_
        refine P_geti (pc' := 36) dX9_takesE_33 rfl fl_X9_192 rfl (l_55 hsh) (t_55 hsh) ?_
        refine P_as e9 ?_
        refine P_if_eq (tgt := 345) (pc' := 39) dX9_takesE_36 rfl rfl (fun h36 => ?_) (fun h36 => ?_)
        · refine P_aload0 (pc' := 346) dX9_takesE_345 rfl ?_
          refine P_iconst (pc' := 347) dX9_takesE_346 rfl (v := 0) rfl ?_
          refine P_callV1 (pc' := 350) dX9_takesE_347 rfl lk_X9_225 (l_55 hsh) (t_55 hsh) (c_X9_settle (d := 1) (r := 0) hsh hC hZ (by omega) (by decide) (by omega)) (by omega) (Nat.le_of_ble_eq_true rfl) (fun r S2 I2 hq => ?_)
          obtain ⟨rfl, rfl, c2, z2, f2⟩ := hq
          refine P_iload1 (pc' := 351) dX9_takesE_350 rfl ?_
          refine P_if_ne (tgt := 358) (pc' := 354) dX9_takesE_351 rfl rfl (fun h351 => ?_) (fun h351 => ?_)
          · exact absurd (by rw [qc]; rfl) h351
          · refine P_iconst (pc' := 355) dX9_takesE_354 rfl (v := 1) rfl ?_
            refine P_goto (tgt := 359) dX9_takesE_355 rfl ?_
            refine P_zret dX9_takesE_359 (by first | exact Or.inl rfl | exact Or.inr rfl) ?_
            exact ⟨rfl, by rw [f2.2 8 (by decide) (by decide)]; exact h8f, ⟨fun y y1 y2 y3 y4 => by rw [f2.1 y y1 y2]; exact hf.1 y y1 y2 y3 y4, fun k hk => by rw [f2.2 k (by omega) (by omega)]; exact hf.2 k hk⟩, rfl, c2, by rw [f2.2 17 (by decide) (by decide)]; exact h17⟩
        · exact absurd rfl h36
    · obtain ⟨rfl, rfl⟩ := sp _ (mst_e0 q0 qc)
      refine P_iload3 (pc' := 29) dX9_takesE_28 rfl ?_
      refine P_if_ne (tgt := 39) (pc' := 32) dX9_takesE_29 rfl rfl (fun h29 => ?_) (fun h29 => ?_)
      · exact absurd rfl h29
      · refine P_aload0 (pc' := 33) dX9_takesE_32 rfl ?_
        refine P_geti (pc' := 36) dX9_takesE_33 rfl fl_X9_192 rfl (l_55 hsh) (t_55 hsh) ?_
        refine P_as e9 ?_
        refine P_if_eq (tgt := 345) (pc' := 39) dX9_takesE_36 rfl rfl (fun h36 => ?_) (fun h36 => ?_)
        · refine P_aload0 (pc' := 346) dX9_takesE_345 rfl ?_
          refine P_iconst (pc' := 347) dX9_takesE_346 rfl (v := 0) rfl ?_
          refine P_callV1 (pc' := 350) dX9_takesE_347 rfl lk_X9_225 (l_55 hsh) (t_55 hsh) (c_X9_settle (d := 1) (r := 0) hsh hC hZ (by omega) (by decide) (by omega)) (by omega) (Nat.le_of_ble_eq_true rfl) (fun r S2 I2 hq => ?_)
          obtain ⟨rfl, rfl, c2, z2, f2⟩ := hq
          refine P_iload1 (pc' := 351) dX9_takesE_350 rfl ?_
          refine P_if_ne (tgt := 358) (pc' := 354) dX9_takesE_351 rfl rfl (fun h351 => ?_) (fun h351 => ?_)
          · refine P_iconst (pc' := 359) dX9_takesE_358 rfl (v := 0) rfl ?_
            refine P_zret dX9_takesE_359 (by first | exact Or.inl rfl | exact Or.inr rfl) ?_
            exact ⟨rfl, by rw [f2.2 8 (by decide) (by decide)]; exact h8f, ⟨fun y y1 y2 y3 y4 => by rw [f2.1 y y1 y2]; exact hf.1 y y1 y2 y3 y4, fun k hk => by rw [f2.2 k (by omega) (by omega)]; exact hf.2 k hk⟩, rfl⟩
          · exact absurd h351 (nI_ne0 (by omega) (by omega))
        · exact absurd rfl h36
  have n36 : ¬ nI (tk x) = 0 := fun z => q0 (tk_0.mp ((nI_eq (b := 0) (by omega) (by decide)).mp z))
  have k237 : ¬ ((x.1 = 3 ∧ b x.2.1 = 41) ∧ 0 < cnt (-11) Z) → PW G RX9 "takesE" cX9_takesE 5 (some .boolean) d 0 0 (TEQ S I0 r p) 237 [some (.ref 55), some (.int (nI (cnt (-11) Z))), some (.int (nI (cnt (-10) Z))), some (.int 0), x4] [] S I := by
    intro q41
    have esg : (if tk x = 3 then (sgO (I 55 10)).getD 0 else 0) = (sgH b x).getD 0 := by
      unfold sgH
      by_cases q3 : x.1 = 3
      · have lt := hx.2.2.2.1 (Or.inr (Or.inr q3))
        rw [if_pos (tk_3.mpr q3), if_pos q3, h10 (Or.inr q3), (hb x.2.1 (by omega)).sg]
      · rw [if_neg (fun z => q3 (tk_3.mp z)), if_neg q3]; rfl
    cases hs : sgH b x with
    | none =>
      obtain ⟨rfl, rfl⟩ := sp none (mst_no q0 q41 (fun k hk => by rw [hs] at hk; cases hk))
      refine P_aload0 (pc' := 238) dX9_takesE_237 rfl ?_
      refine P_callV0 (pc' := 241) dX9_takesE_238 rfl lk_X9_234 (l_55 hsh) (t_55 hsh) (c_X9_signHere (d := 0) hsh h9 t4) (by omega) (Nat.le_of_ble_eq_true rfl) (fun r S' I' hq => ?_)
      obtain ⟨rfl, rfl, rfl⟩ := hq
      refine P_as (y := 0) (by rw [esg, hs]; rfl) ?_
      refine P_istore4 (pc' := 243) dX9_takesE_241 rfl (by decide) rfl ?_
      refine P_iload4 (pc' := 245) dX9_takesE_243 rfl ?_
      refine P_if_eq (tgt := 266) (pc' := 248) dX9_takesE_245 rfl rfl (fun h245 => ?_) (fun h245 => ?_)
      · refine P_iconst (pc' := 267) dX9_takesE_266 rfl (v := 0) rfl ?_
        refine P_zret dX9_takesE_267 (by first | exact Or.inl rfl | exact Or.inr rfl) ?_
        exact ⟨rfl, h8f, hf, rfl⟩
      · exact absurd rfl h245
    | some k =>
      have q3 : x.1 = 3 := by
        unfold sgH at hs
        split at hs
        · assumption
        · cases hs
      have hsO : sgO (b x.2.1) = some k := by
        unfold sgH at hs
        rw [if_pos q3] at hs
        exact hs
      rcases sg_lv (b x.2.1) with ⟨-, q⟩ | ⟨l, kk, q1, q2, s3, s4, s5, s6, s7, s8, s9, s10⟩
      · rw [q] at hsO; cases hsO
      have e : kk = k := Option.some.inj (q2.symm.trans hsO)
      subst e
      have lt := hx.2.2.2.1 (Or.inr (Or.inr q3))
      have k0 : ¬ kk = 0 := fun z => by rw [z] at s8; exact absurd s8 (by decide)
      have r3 : nI (rk kk) = 3 ↔ rk kk = 3 := nI_eq (b := 3) (by omega) (by decide)
      by_cases qt : rk kk = 3 ∧ t = true
      · obtain ⟨rfl, rfl⟩ := sp none (mst_no q0 q41 (fun k' hk' => by rw [hs] at hk'; cases hk'; exact qt))
        have eT : I 65 (cnt (-11) Z) = 1 := by rw [hT0, qt.2]; rfl
        refine P_aload0 (pc' := 238) dX9_takesE_237 rfl ?_
        refine P_callV0 (pc' := 241) dX9_takesE_238 rfl lk_X9_234 (l_55 hsh) (t_55 hsh) (c_X9_signHere (d := 0) hsh h9 t4) (by omega) (Nat.le_of_ble_eq_true rfl) (fun r S' I' hq => ?_)
        obtain ⟨rfl, rfl, rfl⟩ := hq
        refine P_as (y := kk) (by rw [esg, hs]; rfl) ?_
        refine P_istore4 (pc' := 243) dX9_takesE_241 rfl (by decide) rfl ?_
        refine P_iload4 (pc' := 245) dX9_takesE_243 rfl ?_
        refine P_if_eq (tgt := 266) (pc' := 248) dX9_takesE_245 rfl rfl (fun h245 => ?_) (fun h245 => ?_)
        · exact absurd h245 k0
        · refine P_iload4 (pc' := 250) dX9_takesE_248 rfl ?_
          refine P_callS1 (pc' := 253) dX9_takesE_250 rfl lk_X9_213 (c_X9_rank (d := 0) kk) (by omega) (Nat.le_of_ble_eq_true rfl) (fun r S' I' hq => ?_)
          obtain ⟨rfl, rfl, rfl⟩ := hq
          refine P_as (r3.mpr qt.1) ?_
          refine P_iconst (pc' := 254) dX9_takesE_253 rfl (v := 3) rfl ?_
          refine P_icmp_ne (tgt := 268) (pc' := 257) dX9_takesE_254 rfl rfl (fun h254 => ?_) (fun h254 => ?_)
          · exact absurd rfl h254
          · refine P_aload0 (pc' := 258) dX9_takesE_257 rfl ?_
            refine P_getr (pc' := 261) dX9_takesE_258 rfl fl_X9_38 rfl (l_55 hsh) (t_55 hsh) (q_55_20 hsh) ?_
            refine P_iload1 (pc' := 262) dX9_takesE_261 rfl ?_
            refine P_zald (pc' := 263) dX9_takesE_262 rfl (l_65 hsh) (t_65 hsh) (j := cnt (-11) Z) rfl (by omega) (by decide) ?_
            refine P_as eT ?_
            refine P_if_eq (tgt := 268) (pc' := 266) dX9_takesE_263 rfl rfl (fun h263 => ?_) (fun h263 => ?_)
            · exact absurd h263 (by decide)
            · refine P_iconst (pc' := 267) dX9_takesE_266 rfl (v := 0) rfl ?_
              refine P_zret dX9_takesE_267 (by first | exact Or.inl rfl | exact Or.inr rfl) ?_
              exact ⟨rfl, h8f, hf, rfl⟩
      have hm : mst key b n (x, C, Z, false, t :: td, a) = .inl (advL b n x, (stl (rk kk) Z C).2, kk :: (stl (rk kk) Z C).1, true, (if rk kk = 3 then true else if 3 < rk kk then t else false) :: td, a) := mst_op q3 s7 q2 qt
      have ao := (advL_ok (b := b) (n := n) (x := x) w3).2
      have sl := stl_len (rk kk) Z C
      have e11 : cnt (-11) (kk :: (stl (rk kk) Z C).1) = cnt (-11) Z := by rw [cnt_s, if_neg s10, stl_11, Nat.zero_add]
      have e10 : cnt (-10) (kk :: (stl (rk kk) Z C).1) = cnt (-10) Z := by rw [cnt_s, if_neg s9, (stl_nn _ _ _ hnn).2, Nat.zero_add]
      have k305 : ∀ v : Int32, v = (if (if rk kk = 3 then true else if 3 < rk kk then t else false) = true then 1 else 0) → PW G RX9 "takesE" cX9_takesE 5 (some .boolean) d 0 0 (TEQ S I0 r p) 305 [some (.ref 55), some (.int (nI (cnt (-11) Z))), some (.int (nI (cnt (-10) Z))), some (.int 0), some (.int kk)] [.int v, .int (nI (cnt (-11) Z)), .ref 65] S I := by
        intro v hv
        have hC1 : CR C (u2 I 65 (cnt (-11) Z) (vp_nar .boolean v)) := ⟨by rw [u2_a (by decide)]; exact hC.1, fun k hk => by rw [u2_a (by decide)]; exact hC.2 k hk⟩
        have hZ1 : ZR Z (u2 I 65 (cnt (-11) Z) (vp_nar .boolean v)) := ⟨by rw [u2_a (by decide)]; exact hZ.1, hZ.2.cg (fun k _ => by rw [u2_a (by decide)])⟩
        have ev : vp_nar .boolean v = (if (if rk kk = 3 then true else if 3 < rk kk then t else false) = true then 1 else 0) := by
          rw [hv]
          generalize (if rk kk = 3 then true else if 3 < rk kk then t else false) = z
          cases z <;> rfl
        refine P_zast (pc' := 306) dX9_takesE_305 rfl (l_65 hsh) (t_65 hsh) (j := cnt (-11) Z) rfl (by omega) (by decide) ?_
        refine P_aload0 (pc' := 307) dX9_takesE_306 rfl ?_
        refine P_iload4 (pc' := 309) dX9_takesE_307 rfl ?_
        refine P_callS1 (pc' := 312) dX9_takesE_309 rfl lk_X9_213 (c_X9_rank (d := 0) kk) (by omega) (Nat.le_of_ble_eq_true rfl) (fun r S' I' hq => ?_)
        obtain ⟨rfl, rfl, rfl⟩ := hq
        refine P_callV1 (pc' := 315) dX9_takesE_312 rfl lk_X9_225 (l_55 hsh) (t_55 hsh) (c_X9_settle (d := 1) (r := rk kk) hsh hC1 hZ1 (by omega) (by omega) (by omega)) (by omega) (Nat.le_of_ble_eq_true rfl) (fun r S2 I2 hq => ?_)
        obtain ⟨rfl, rfl, c2, z2, f2⟩ := hq
        refine P_aload0 (pc' := 316) dX9_takesE_315 rfl ?_
        refine P_getr (pc' := 319) dX9_takesE_316 rfl fl_X9_35 rfl (l_55 hsh) (t_55 hsh) (q_55_18 hsh) ?_
        refine P_aload0 (pc' := 320) dX9_takesE_319 rfl ?_
        refine P_geti (pc' := 323) dX9_takesE_320 rfl fl_X9_210 rfl (l_55 hsh) (t_55 hsh) ?_
        refine P_as z2.1 ?_
        refine P_iload4 (pc' := 325) dX9_takesE_323 rfl ?_
        refine P_iast (pc' := 326) dX9_takesE_325 rfl (l_64 hsh) (t_64 hsh) (j := (stl (rk kk) Z C).1.length) rfl (by omega) (by decide) ?_
        refine P_aload0 (pc' := 327) dX9_takesE_326 rfl ?_
        refine P_dup (pc' := 328) dX9_takesE_327 rfl rfl ?_
        refine P_geti (pc' := 331) dX9_takesE_328 rfl fl_X9_210 rfl (l_55 hsh) (t_55 hsh) ?_
        refine P_as (y := nI (stl (rk kk) Z C).1.length) (by rw [u2_a (by decide)]; exact z2.1) ?_
        refine P_iconst (pc' := 332) dX9_takesE_331 rfl (v := 1) rfl ?_
        refine P_iadd (pc' := 333) dX9_takesE_332 rfl ?_
        refine P_as (nI_1 _) ?_
        refine P_puti (pc' := 336) dX9_takesE_333 rfl fl_X9_210 rfl (l_55 hsh) (t_55 hsh) ?_
        refine P_iconst (pc' := 337) dX9_takesE_336 rfl (v := 1) rfl ?_
        refine P_istore3 (pc' := 338) dX9_takesE_337 rfl (by decide) rfl ?_
        refine P_aload0 (pc' := 339) dX9_takesE_338 rfl ?_
        refine P_callV0 (pc' := 342) dX9_takesE_339 rfl lk_X9_207 (l_55 hsh) (t_55 hsh) (c_X9_go (d := 1) (b := b) (n := n) (x := x) hsh hn w3 (by omega) (g.1.mv (by rw [u2_row (by decide), u2_row (by decide), f2.1 60 (by decide) (by decide), u2_row (by decide)]) (fun k hk => by rw [u2_k (by omega), u2_a (by decide), f2.2 k (by omega) (by omega), u2_a (by decide)])) (by omega)) (by omega) (Nat.le_of_ble_eq_true rfl) (fun r S3 I3 hq => ?_)
        obtain ⟨rfl, rfl, g3, f3⟩ := hq
        refine P_goto (tgt := 28) dX9_takesE_342 rfl ?_
        have e65 : ∀ k, I3 65 k = u2 I 65 (cnt (-11) Z) (vp_nar .boolean v) 65 k := fun k => by rw [f3.1 65 (by decide), u2_a (by decide), u2_a (by decide), f2.1 65 (by decide) (by decide)]
        have nxt := nx _ I3 (some (.int kk)) hm ⟨g3, WOk.adv w3, by rw [f3.2 12 (by omega), u2_k (by decide), u2_a (by decide), f2.2 12 (by decide) (by decide), u2_a (by decide)]; exact h12, ⟨by rw [f3.2 16 (by omega), u2_k (by decide), u2_a (by decide)]; exact c2.1, fun k hk => by rw [f3.1 63 (by decide), u2_a (by decide), u2_a (by decide)]; exact c2.2 k hk⟩, ⟨by rw [f3.2 19 (by omega), u2_s]; rfl, by rw [f3.1 64 (by decide), u2_a (by decide), u2_s], z2.2.cg (fun k hk => by rw [f3.1 64 (by decide), u2_a (by decide), u2_k (by omega)])⟩, ⟨⟨by rw [hTl, e65, u2_s]; exact ev, hT1.cg (fun k hk => by rw [e65, u2_k (by omega)])⟩, by rw [e11, List.length_cons, hTl]⟩, by rw [f3.2 17 (by omega), u2_k (by decide), u2_a (by decide), f2.2 17 (by decide) (by decide), u2_a (by decide)]; exact h17, by dsimp only; rw [List.length_cons]; omega, by rw [e11]; exact h8, ⟨stl_wf _ _ _ hwf, Or.inr (Or.inr (stl_nn _ _ _ hnn).1)⟩, fun z => by cases z⟩ ⟨fun y y1 y2 y3 y4 => by rw [f3.1 y y1, u2_row y1, u2_row y3, f2.1 y y1 y2, u2_row y4]; exact hf.1 y y1 y2 y3 y4, fun k hk => by rw [f3.2 k (by omega), u2_k (by omega), u2_a (by decide), f2.2 k (by omega) (by omega), u2_a (by decide)]; exact hf.2 k hk⟩
        unfold lsE at nxt
        dsimp only at nxt
        rw [e11, e10] at nxt
        exact nxt
      have k268 : PW G RX9 "takesE" cX9_takesE 5 (some .boolean) d 0 0 (TEQ S I0 r p) 268 [some (.ref 55), some (.int (nI (cnt (-11) Z))), some (.int (nI (cnt (-10) Z))), some (.int 0), some (.int kk)] [] S I := by
        refine P_aload0 (pc' := 269) dX9_takesE_268 rfl ?_
        refine P_getr (pc' := 272) dX9_takesE_269 rfl fl_X9_38 rfl (l_55 hsh) (t_55 hsh) (q_55_20 hsh) ?_
        refine P_iload1 (pc' := 273) dX9_takesE_272 rfl ?_
        refine P_iload4 (pc' := 275) dX9_takesE_273 rfl ?_
        refine P_callS1 (pc' := 278) dX9_takesE_275 rfl lk_X9_213 (c_X9_rank (d := 0) kk) (by omega) (Nat.le_of_ble_eq_true rfl) (fun r S' I' hq => ?_)
        obtain ⟨rfl, rfl, rfl⟩ := hq
        refine P_iconst (pc' := 279) dX9_takesE_278 rfl (v := 3) rfl ?_
        refine P_icmp_eq (tgt := 300) (pc' := 282) dX9_takesE_279 rfl rfl (fun h279 => ?_) (fun h279 => ?_)
        · refine P_iconst (pc' := 301) dX9_takesE_300 rfl (v := 1) rfl ?_
          refine P_goto (tgt := 305) dX9_takesE_301 rfl ?_
          first
            | exact k305 1 (by rw [if_pos (r3.mp h279)]; rfl)
            | exact k305 0 (by rw [if_neg (fun z => h279 (r3.mpr z)), if_neg (fun z => nI_ge (a := 3) (b := rk kk) z (by omega) h288)]; rfl)
            | exact k305 0 (by rw [if_neg (fun z => h279 (r3.mpr z)), if_pos (Nat.lt_of_not_le (fun z => h288 (nI_le (b := 3) z (by decide))))]; exact h297.symm)
            | exact k305 1 (by
                rw [if_neg (fun z => h279 (r3.mpr z)), if_pos (Nat.lt_of_not_le (fun z => h288 (nI_le (b := 3) z (by decide))))]
                cases t with
                | true => rfl
                | false => exact absurd rfl h297)
        · refine P_iload4 (pc' := 284) dX9_takesE_282 rfl ?_
          refine P_callS1 (pc' := 287) dX9_takesE_284 rfl lk_X9_213 (c_X9_rank (d := 0) kk) (by omega) (Nat.le_of_ble_eq_true rfl) (fun r S' I' hq => ?_)
          obtain ⟨rfl, rfl, rfl⟩ := hq
          refine P_iconst (pc' := 288) dX9_takesE_287 rfl (v := 3) rfl ?_
          refine P_icmp_le (tgt := 304) (pc' := 291) dX9_takesE_288 rfl rfl (fun h288 => ?_) (fun h288 => ?_)
          · refine P_iconst (pc' := 305) dX9_takesE_304 rfl (v := 0) rfl ?_
            first
              | exact k305 1 (by rw [if_pos (r3.mp h279)]; rfl)
              | exact k305 0 (by rw [if_neg (fun z => h279 (r3.mpr z)), if_neg (fun z => nI_ge (a := 3) (b := rk kk) z (by omega) h288)]; rfl)
              | exact k305 0 (by rw [if_neg (fun z => h279 (r3.mpr z)), if_pos (Nat.lt_of_not_le (fun z => h288 (nI_le (b := 3) z (by decide))))]; exact h297.symm)
              | exact k305 1 (by
                  rw [if_neg (fun z => h279 (r3.mpr z)), if_pos (Nat.lt_of_not_le (fun z => h288 (nI_le (b := 3) z (by decide))))]
                  cases t with
                  | true => rfl
                  | false => exact absurd rfl h297)
          · refine P_aload0 (pc' := 292) dX9_takesE_291 rfl ?_
            refine P_getr (pc' := 295) dX9_takesE_292 rfl fl_X9_38 rfl (l_55 hsh) (t_55 hsh) (q_55_20 hsh) ?_
            refine P_iload1 (pc' := 296) dX9_takesE_295 rfl ?_
            refine P_zald (pc' := 297) dX9_takesE_296 rfl (l_65 hsh) (t_65 hsh) (j := cnt (-11) Z) rfl (by omega) (by decide) ?_
            refine P_as hT0 ?_
            refine P_if_eq (tgt := 304) (pc' := 300) dX9_takesE_297 rfl rfl (fun h297 => ?_) (fun h297 => ?_)
            · refine P_iconst (pc' := 305) dX9_takesE_304 rfl (v := 0) rfl ?_
              first
                | exact k305 1 (by rw [if_pos (r3.mp h279)]; rfl)
                | exact k305 0 (by rw [if_neg (fun z => h279 (r3.mpr z)), if_neg (fun z => nI_ge (a := 3) (b := rk kk) z (by omega) h288)]; rfl)
                | exact k305 0 (by rw [if_neg (fun z => h279 (r3.mpr z)), if_pos (Nat.lt_of_not_le (fun z => h288 (nI_le (b := 3) z (by decide))))]; exact h297.symm)
                | exact k305 1 (by
                    rw [if_neg (fun z => h279 (r3.mpr z)), if_pos (Nat.lt_of_not_le (fun z => h288 (nI_le (b := 3) z (by decide))))]
                    cases t with
                    | true => rfl
                    | false => exact absurd rfl h297)
            · refine P_iconst (pc' := 301) dX9_takesE_300 rfl (v := 1) rfl ?_
              refine P_goto (tgt := 305) dX9_takesE_301 rfl ?_
              first
                | exact k305 1 (by rw [if_pos (r3.mp h279)]; rfl)
                | exact k305 0 (by rw [if_neg (fun z => h279 (r3.mpr z)), if_neg (fun z => nI_ge (a := 3) (b := rk kk) z (by omega) h288)]; rfl)
                | exact k305 0 (by rw [if_neg (fun z => h279 (r3.mpr z)), if_pos (Nat.lt_of_not_le (fun z => h288 (nI_le (b := 3) z (by decide))))]; exact h297.symm)
                | exact k305 1 (by
                    rw [if_neg (fun z => h279 (r3.mpr z)), if_pos (Nat.lt_of_not_le (fun z => h288 (nI_le (b := 3) z (by decide))))]
                    cases t with
                    | true => rfl
                    | false => exact absurd rfl h297)
      refine P_aload0 (pc' := 238) dX9_takesE_237 rfl ?_
      refine P_callV0 (pc' := 241) dX9_takesE_238 rfl lk_X9_234 (l_55 hsh) (t_55 hsh) (c_X9_signHere (d := 0) hsh h9 t4) (by omega) (Nat.le_of_ble_eq_true rfl) (fun r S' I' hq => ?_)
      obtain ⟨rfl, rfl, rfl⟩ := hq
      refine P_as (y := kk) (by rw [esg, hs]; rfl) ?_
      refine P_istore4 (pc' := 243) dX9_takesE_241 rfl (by decide) rfl ?_
      refine P_iload4 (pc' := 245) dX9_takesE_243 rfl ?_
      refine P_if_eq (tgt := 266) (pc' := 248) dX9_takesE_245 rfl rfl (fun h245 => ?_) (fun h245 => ?_)
      · exact absurd h245 k0
      · refine P_iload4 (pc' := 250) dX9_takesE_248 rfl ?_
        refine P_callS1 (pc' := 253) dX9_takesE_250 rfl lk_X9_213 (c_X9_rank (d := 0) kk) (by omega) (Nat.le_of_ble_eq_true rfl) (fun r S' I' hq => ?_)
        obtain ⟨rfl, rfl, rfl⟩ := hq
        refine P_iconst (pc' := 254) dX9_takesE_253 rfl (v := 3) rfl ?_
        refine P_icmp_ne (tgt := 268) (pc' := 257) dX9_takesE_254 rfl rfl (fun h254 => ?_) (fun h254 => ?_)
        · exact k268
        · refine P_aload0 (pc' := 258) dX9_takesE_257 rfl ?_
          refine P_getr (pc' := 261) dX9_takesE_258 rfl fl_X9_38 rfl (l_55 hsh) (t_55 hsh) (q_55_20 hsh) ?_
          refine P_iload1 (pc' := 262) dX9_takesE_261 rfl ?_
          refine P_zald (pc' := 263) dX9_takesE_262 rfl (l_65 hsh) (t_65 hsh) (j := cnt (-11) Z) rfl (by omega) (by decide) ?_
          refine P_as hT0 ?_
          refine P_if_eq (tgt := 268) (pc' := 266) dX9_takesE_263 rfl rfl (fun h263 => ?_) (fun h263 => ?_)
          · exact k268
          · exact absurd (by
              cases t with
              | true => exact absurd ⟨r3.mp h254, rfl⟩ qt
              | false => rfl) h263
  by_cases q3 : x.1 = 3
  · have e9 : I 55 9 = 3 := by rw [h9, tk_3.mpr q3]; rfl
    have e10 := h10 (Or.inr q3)
    have lt := hx.2.2.2.1 (by omega)
    have key41 := (hb x.2.1 (by omega)).eq (c := 41) (by decide) (by decide)
    by_cases q41 : b x.2.1 = 41
    · have e10 : I 55 10 = 41 := by rw [e10]; exact key41.mpr q41
      by_cases qc : 0 < cnt (-11) Z
      · obtain ⟨Z', hZ'⟩ := stl_0o Z C qc
        have e11 := stl_11 0 Z C
        rw [hZ', cnt_s, if_pos rfl] at e11
        have sl0 := stl_len 0 Z C
        rw [hZ'] at sl0
        have sl0 : (stl 0 Z C).2.length + (Z'.length + 1) = C.length + Z.length := sl0
        have wf0 := stl_wf 0 Z C hwf
        rw [hZ'] at wf0
        have sl6 := stl_len 6 Z' (stl 0 Z C).2
        have f11 := stl_11 6 Z' (stl 0 Z C).2
        have ao := (advL_ok (b := b) (n := n) (x := x) w3).2
        have hm : mst key b n (x, C, Z, false, t :: td, a) = .inl (advL b n x, (stl 6 Z' (stl 0 Z C).2).2, (stl 6 Z' (stl 0 Z C).2).1, false, td, a) := by
          have z := mst_cl (key := key) (n := n) (a := a) (C := C) (Z := Z) (td := t :: td) q3 q41 qc
          rw [hZ'] at z
          exact z
        have ei : nI (cnt (-11) Z) + Int32.ofInt (-1) = nI (cnt (-11) Z') := by
          rw [← e11, Nat.add_comm]
          exact pk_m1 _
        refine P_iload3 (pc' := 29) dX9_takesE_28 rfl ?_
        refine P_if_ne (tgt := 39) (pc' := 32) dX9_takesE_29 rfl rfl (fun h29 => ?_) (fun h29 => ?_)
        · exact absurd rfl h29
        · refine P_aload0 (pc' := 33) dX9_takesE_32 rfl ?_
          refine P_geti (pc' := 36) dX9_takesE_33 rfl fl_X9_192 rfl (l_55 hsh) (t_55 hsh) ?_
          refine P_as e9 ?_
          refine P_if_eq (tgt := 345) (pc' := 39) dX9_takesE_36 rfl rfl (fun h36 => ?_) (fun h36 => ?_)
          · exact absurd h36 (by decide)
          · refine P_iload3 (pc' := 40) dX9_takesE_39 rfl ?_
            refine P_if_eq (tgt := 180) (pc' := 43) dX9_takesE_40 rfl rfl (fun h40 => ?_) (fun h40 => ?_)
            · refine P_aload0 (pc' := 181) dX9_takesE_180 rfl ?_
              refine P_geti (pc' := 184) dX9_takesE_181 rfl fl_X9_192 rfl (l_55 hsh) (t_55 hsh) ?_
              refine P_as e9 ?_
              refine P_iconst (pc' := 185) dX9_takesE_184 rfl (v := 3) rfl ?_
              refine P_icmp_ne (tgt := 237) (pc' := 188) dX9_takesE_185 rfl rfl (fun h185 => ?_) (fun h185 => ?_)
              · exact absurd rfl h185
              · refine P_aload0 (pc' := 189) dX9_takesE_188 rfl ?_
                refine P_geti (pc' := 192) dX9_takesE_189 rfl fl_X9_198 rfl (l_55 hsh) (t_55 hsh) ?_
                refine P_as e10 ?_
                refine P_bipush (pc' := 194) dX9_takesE_192 rfl (v := 41) rfl ?_
                refine P_icmp_ne (tgt := 237) (pc' := 197) dX9_takesE_194 rfl rfl (fun h194 => ?_) (fun h194 => ?_)
                · exact absurd rfl h194
                · refine P_iload1 (pc' := 198) dX9_takesE_197 rfl ?_
                  refine P_if_le (tgt := 237) (pc' := 201) dX9_takesE_198 rfl rfl (fun h198 => ?_) (fun h198 => ?_)
                  · exact absurd h198 (nI_nle qc (by omega))
                  · refine P_aload0 (pc' := 202) dX9_takesE_201 rfl ?_
                    refine P_iconst (pc' := 203) dX9_takesE_202 rfl (v := 0) rfl ?_
                    refine P_callV1 (pc' := 206) dX9_takesE_203 rfl lk_X9_225 (l_55 hsh) (t_55 hsh) (c_X9_settle (d := 1) (r := 0) hsh hC hZ (by omega) (by decide) (by omega)) (by omega) (Nat.le_of_ble_eq_true rfl) (fun r S2 I2 hq => ?_)
                    obtain ⟨rfl, rfl, c2, z2, f2⟩ := hq
                    rw [hZ'] at z2
                    refine P_aload0 (pc' := 207) dX9_takesE_206 rfl ?_
                    refine P_dup (pc' := 208) dX9_takesE_207 rfl rfl ?_
                    refine P_geti (pc' := 211) dX9_takesE_208 rfl fl_X9_210 rfl (l_55 hsh) (t_55 hsh) ?_
                    refine P_as (y := nI (Z'.length + 1)) z2.1 ?_
                    refine P_iconst (pc' := 212) dX9_takesE_211 rfl (v := 1) rfl ?_
                    refine P_isub (pc' := 213) dX9_takesE_212 rfl ?_
                    refine P_as (nI_pred _) ?_
                    refine P_puti (pc' := 216) dX9_takesE_213 rfl fl_X9_210 rfl (l_55 hsh) (t_55 hsh) ?_
                    refine P_iinc1 (pc' := 219) dX9_takesE_216 rfl ei (by decide) rfl ?_
                    refine P_aload0 (pc' := 220) dX9_takesE_219 rfl ?_
                    refine P_bipush (pc' := 222) dX9_takesE_220 rfl (v := 6) rfl ?_
                    refine P_callV1 (pc' := 225) dX9_takesE_222 rfl lk_X9_225 (l_55 hsh) (t_55 hsh) (c_X9_settle (d := 1) (r := 6) (C := (stl 0 Z C).2) (Z := Z') hsh ⟨by rw [u2_k (by decide)]; exact c2.1, fun k hk => by rw [u2_a (by decide)]; exact c2.2 k hk⟩ ⟨u2_s _ _ _ _, z2.2.2.cg (fun k _ => by rw [u2_a (by decide)])⟩ (by omega) (by decide) (by omega)) (by omega) (Nat.le_of_ble_eq_true rfl) (fun r S4 I4 hq => ?_)
                    obtain ⟨rfl, rfl, c4, z4, f4⟩ := hq
                    refine P_aload0 (pc' := 226) dX9_takesE_225 rfl ?_
                    refine P_callV0 (pc' := 229) dX9_takesE_226 rfl lk_X9_231 (l_55 hsh) (t_55 hsh) (c_X9_notsOpen (d := 0) hsh z4 (by omega)) (by omega) (Nat.le_of_ble_eq_true rfl) (fun r S' I' hq => ?_)
                    obtain ⟨rfl, rfl, rfl⟩ := hq
                    refine P_istore2 (pc' := 230) dX9_takesE_229 rfl (by decide) rfl ?_
                    refine P_aload0 (pc' := 231) dX9_takesE_230 rfl ?_
                    refine P_callV0 (pc' := 234) dX9_takesE_231 rfl lk_X9_207 (l_55 hsh) (t_55 hsh) (c_X9_go (d := 1) (b := b) (n := n) (x := x) hsh hn w3 (by omega) (g.1.mv (by rw [f4.1 60 (by decide) (by decide), u2_row (by decide), f2.1 60 (by decide) (by decide)]) (fun k hk => by rw [f4.2 k (by omega) (by omega), u2_k (by omega), f2.2 k (by omega) (by omega)])) (by omega)) (by omega) (Nat.le_of_ble_eq_true rfl) (fun r S5 I5 hq => ?_)
                    obtain ⟨rfl, rfl, g5, f5⟩ := hq
                    refine P_goto (tgt := 28) dX9_takesE_234 rfl ?_
                    have nxt := nx _ I5 x4 hm ⟨g5, WOk.adv w3, by rw [f5.2 12 (by omega), f4.2 12 (by decide) (by decide), u2_k (by decide), f2.2 12 (by decide) (by decide)]; exact h12, ⟨by rw [f5.2 16 (by omega)]; exact c4.1, fun k hk => by rw [f5.1 63 (by decide)]; exact c4.2 k hk⟩, ⟨by rw [f5.2 19 (by omega)]; exact z4.1, by rw [f5.1 64 (by decide)]; exact z4.2⟩, ⟨hT1.cg (fun k _ => by rw [f5.1 65 (by decide), f4.1 65 (by decide) (by decide), u2_a (by decide), f2.1 65 (by decide) (by decide)]), by dsimp only; rw [f11, hTl]; omega⟩, by rw [f5.2 17 (by omega), f4.2 17 (by decide) (by decide), u2_k (by decide), f2.2 17 (by decide) (by decide)]; exact h17, by dsimp only; omega, by dsimp only; rw [f11]; omega, stl_wf _ _ _ wf0.1, fun _ => stl_6n _ _ wf0.1⟩ ⟨fun y y1 y2 y3 y4 => by rw [f5.1 y y1, f4.1 y y1 y2, u2_row y1, f2.1 y y1 y2]; exact hf.1 y y1 y2 y3 y4, fun k hk => by rw [f5.2 k (by omega), f4.2 k (by omega) (by omega), u2_k (by omega), f2.2 k (by omega) (by omega)]; exact hf.2 k hk⟩
                    unfold lsE at nxt
                    dsimp only at nxt
                    rw [f11] at nxt
                    exact nxt
            · exact absurd rfl h40
      · have k237 := k237 (fun z => qc z.2)
        refine P_iload3 (pc' := 29) dX9_takesE_28 rfl ?_
        refine P_if_ne (tgt := 39) (pc' := 32) dX9_takesE_29 rfl rfl (fun h29 => ?_) (fun h29 => ?_)
        · exact absurd rfl h29
        · refine P_aload0 (pc' := 33) dX9_takesE_32 rfl ?_
          refine P_geti (pc' := 36) dX9_takesE_33 rfl fl_X9_192 rfl (l_55 hsh) (t_55 hsh) ?_
          refine P_as e9 ?_
          refine P_if_eq (tgt := 345) (pc' := 39) dX9_takesE_36 rfl rfl (fun h36 => ?_) (fun h36 => ?_)
          · exact absurd h36 (by decide)
          · refine P_iload3 (pc' := 40) dX9_takesE_39 rfl ?_
            refine P_if_eq (tgt := 180) (pc' := 43) dX9_takesE_40 rfl rfl (fun h40 => ?_) (fun h40 => ?_)
            · refine P_aload0 (pc' := 181) dX9_takesE_180 rfl ?_
              refine P_geti (pc' := 184) dX9_takesE_181 rfl fl_X9_192 rfl (l_55 hsh) (t_55 hsh) ?_
              refine P_as e9 ?_
              refine P_iconst (pc' := 185) dX9_takesE_184 rfl (v := 3) rfl ?_
              refine P_icmp_ne (tgt := 237) (pc' := 188) dX9_takesE_185 rfl rfl (fun h185 => ?_) (fun h185 => ?_)
              · exact absurd rfl h185
              · refine P_aload0 (pc' := 189) dX9_takesE_188 rfl ?_
                refine P_geti (pc' := 192) dX9_takesE_189 rfl fl_X9_198 rfl (l_55 hsh) (t_55 hsh) ?_
                refine P_as e10 ?_
                refine P_bipush (pc' := 194) dX9_takesE_192 rfl (v := 41) rfl ?_
                refine P_icmp_ne (tgt := 237) (pc' := 197) dX9_takesE_194 rfl rfl (fun h194 => ?_) (fun h194 => ?_)
                · exact absurd rfl h194
                · refine P_iload1 (pc' := 198) dX9_takesE_197 rfl ?_
                  refine P_if_le (tgt := 237) (pc' := 201) dX9_takesE_198 rfl rfl (fun h198 => ?_) (fun h198 => ?_)
                  · exact k237
                  · exact absurd (nI_le (b := 0) (by omega) (by decide)) h198
            · exact absurd rfl h40
    · have k237 := k237 (fun z => q41 z.1.2)
      refine P_iload3 (pc' := 29) dX9_takesE_28 rfl ?_
      refine P_if_ne (tgt := 39) (pc' := 32) dX9_takesE_29 rfl rfl (fun h29 => ?_) (fun h29 => ?_)
      · exact absurd rfl h29
      · refine P_aload0 (pc' := 33) dX9_takesE_32 rfl ?_
        refine P_geti (pc' := 36) dX9_takesE_33 rfl fl_X9_192 rfl (l_55 hsh) (t_55 hsh) ?_
        refine P_as e9 ?_
        refine P_if_eq (tgt := 345) (pc' := 39) dX9_takesE_36 rfl rfl (fun h36 => ?_) (fun h36 => ?_)
        · exact absurd h36 (by decide)
        · refine P_iload3 (pc' := 40) dX9_takesE_39 rfl ?_
          refine P_if_eq (tgt := 180) (pc' := 43) dX9_takesE_40 rfl rfl (fun h40 => ?_) (fun h40 => ?_)
          · refine P_aload0 (pc' := 181) dX9_takesE_180 rfl ?_
            refine P_geti (pc' := 184) dX9_takesE_181 rfl fl_X9_192 rfl (l_55 hsh) (t_55 hsh) ?_
            refine P_as e9 ?_
            refine P_iconst (pc' := 185) dX9_takesE_184 rfl (v := 3) rfl ?_
            refine P_icmp_ne (tgt := 237) (pc' := 188) dX9_takesE_185 rfl rfl (fun h185 => ?_) (fun h185 => ?_)
            · exact absurd rfl h185
            · refine P_aload0 (pc' := 189) dX9_takesE_188 rfl ?_
              refine P_geti (pc' := 192) dX9_takesE_189 rfl fl_X9_198 rfl (l_55 hsh) (t_55 hsh) ?_
              refine P_as e10 ?_
              refine P_bipush (pc' := 194) dX9_takesE_192 rfl (v := 41) rfl ?_
              refine P_icmp_ne (tgt := 237) (pc' := 197) dX9_takesE_194 rfl rfl (fun h194 => ?_) (fun h194 => ?_)
              · exact k237
              · exact absurd (key41.mp h194) q41
          · exact absurd rfl h40
  · have k237 := k237 (fun z => q3 z.1.1)
    refine P_iload3 (pc' := 29) dX9_takesE_28 rfl ?_
    refine P_if_ne (tgt := 39) (pc' := 32) dX9_takesE_29 rfl rfl (fun h29 => ?_) (fun h29 => ?_)
    · exact absurd rfl h29
    · refine P_aload0 (pc' := 33) dX9_takesE_32 rfl ?_
      refine P_geti (pc' := 36) dX9_takesE_33 rfl fl_X9_192 rfl (l_55 hsh) (t_55 hsh) ?_
      refine P_as h9 ?_
      refine P_if_eq (tgt := 345) (pc' := 39) dX9_takesE_36 rfl rfl (fun h36 => ?_) (fun h36 => ?_)
      · exact absurd h36 n36
      · refine P_iload3 (pc' := 40) dX9_takesE_39 rfl ?_
        refine P_if_eq (tgt := 180) (pc' := 43) dX9_takesE_40 rfl rfl (fun h40 => ?_) (fun h40 => ?_)
        · refine P_aload0 (pc' := 181) dX9_takesE_180 rfl ?_
          refine P_geti (pc' := 184) dX9_takesE_181 rfl fl_X9_192 rfl (l_55 hsh) (t_55 hsh) ?_
          refine P_as h9 ?_
          refine P_iconst (pc' := 185) dX9_takesE_184 rfl (v := 3) rfl ?_
          refine P_icmp_ne (tgt := 237) (pc' := 188) dX9_takesE_185 rfl rfl (fun h185 => ?_) (fun h185 => ?_)
          · exact k237
          · exact absurd (tk_3.mp ((nI_eq (b := 3) (by omega) (by decide)).mp h185)) q3
        · exact absurd rfl h40
theorem lp_X9_takesE {G : GX} {S : Shp} {I0 : Mem} {b : Nat → Int32} {d n key p : Nat} {r : Option (List Int32 × Nat)} (hsh : SHP S) (hn : n ≤ 96) (hk2 : key ≤ 2) (hd : 4 ≤ d) : ∀ (j : Nat) (m : MS) (I : Mem) (x4 : Option Value), MR key b n m I → FrE I0 I → runM key b n j m = some (r, p) → PW G RX9 "takesE" cX9_takesE 5 (some .boolean) d 0 0 (TEQ S I0 r p) 28 (lsE m x4) [] S I := by
  intro j
  induction j with
  | zero => intro m I x4 _ _ h; cases h
  | succ j ih =>
    intro m I x4 hm hf hr
    have nx : ∀ m' I' x4', mst key b n m = .inl m' → MR key b n m' I' → FrE I0 I' → PW G RX9 "takesE" cX9_takesE 5 (some .boolean) d 0 0 (TEQ S I0 r p) 28 (lsE m' x4') [] S I' := fun m' I' x4' h1 h2 h3 => ih m' I' x4' h2 h3 (by rw [runM_l h1] at hr; exact hr)
    have sp : ∀ r', mst key b n m = .inr r' → r = r' ∧ p = m.1.2.1 := fun r' h1 => by
      rw [runM_r h1] at hr
      have e := Option.some.inj hr
      exact ⟨(congrArg Prod.fst e).symm, (congrArg Prod.snd e).symm⟩
    cases hw : m.2.2.2.1 with
    | true => exact k_want hsh hn hk2 hd hw hm hf nx sp
    | false => exact k_next hsh hn hd hw hm hf nx sp
theorem c_X9_takesE {G : GX} {S : Shp} {I : Mem} {b : Nat → Int32} {d n key p j : Nat} {r : Option (List Int32 × Nat)} {x : Lx} (hsh : SHP S) (hn : n ≤ 96) (hk2 : key ≤ 2) (hx : WOk b n x) (h : GoR b n x I) (h12 : I 55 12 = nI key) (hr : runM key b n j (x, [], [], true, [false], 0) = some (r, p)) (hd : 4 ≤ d) : PM G yX9_takesE cX9_takesE 5 (some .boolean) d 0 0 [.ref 55] S I (TEQ S I r p) := by
  refine PM.of (ls := [some (.ref 55), none, none, none, none]) (by decide) rfl (Nat.le_of_ble_eq_true rfl) rfl ?_
  show PW G RX9 "takesE" _ _ _ _ _ _ _ _ _ _ _ _
  refine P_iconst (pc' := 1) dX9_takesE_0 rfl (v := 0) rfl ?_
  refine P_istore1 (pc' := 2) dX9_takesE_1 rfl (by decide) rfl ?_
  refine P_iconst (pc' := 3) dX9_takesE_2 rfl (v := 0) rfl ?_
  refine P_istore2 (pc' := 4) dX9_takesE_3 rfl (by decide) rfl ?_
  refine P_iconst (pc' := 5) dX9_takesE_4 rfl (v := 1) rfl ?_
  refine P_istore3 (pc' := 6) dX9_takesE_5 rfl (by decide) rfl ?_
  refine P_aload0 (pc' := 7) dX9_takesE_6 rfl ?_
  refine P_iconst (pc' := 8) dX9_takesE_7 rfl (v := 0) rfl ?_
  refine P_puti (pc' := 11) dX9_takesE_8 rfl fl_X9_216 rfl (l_55 hsh) (t_55 hsh) ?_
  refine P_aload0 (pc' := 12) dX9_takesE_11 rfl ?_
  refine P_iconst (pc' := 13) dX9_takesE_12 rfl (v := 0) rfl ?_
  refine P_puti (pc' := 16) dX9_takesE_13 rfl fl_X9_222 rfl (l_55 hsh) (t_55 hsh) ?_
  refine P_aload0 (pc' := 17) dX9_takesE_16 rfl ?_
  refine P_iconst (pc' := 18) dX9_takesE_17 rfl (v := 0) rfl ?_
  refine P_puti (pc' := 21) dX9_takesE_18 rfl fl_X9_210 rfl (l_55 hsh) (t_55 hsh) ?_
  refine P_aload0 (pc' := 22) dX9_takesE_21 rfl ?_
  refine P_getr (pc' := 25) dX9_takesE_22 rfl fl_X9_38 rfl (l_55 hsh) (t_55 hsh) (q_55_20 hsh) ?_
  refine P_iconst (pc' := 26) dX9_takesE_25 rfl (v := 0) rfl ?_
  refine P_iconst (pc' := 27) dX9_takesE_26 rfl (v := 0) rfl ?_
  refine P_zast (pc' := 28) dX9_takesE_27 rfl (l_65 hsh) (t_65 hsh) (j := 0) rfl (by decide) (by decide) ?_
  refine lp_X9_takesE hsh hn hk2 hd j (x, [], [], true, [false], 0) _ none ⟨h.mv (by rw [u2_row (by decide), u2_row (by decide), u2_row (by decide), u2_row (by decide)]) (fun k hk => by rw [u2_a (by decide), u2_k (by omega), u2_k (by omega), u2_k (by omega)]), hx, by rw [u2_a (by decide), u2_k (by decide), u2_k (by decide), u2_k (by decide)]; exact h12, ⟨by rw [u2_a (by decide), u2_k (by decide), u2_k (by decide), u2_s]; rfl, fun k hk => absurd hk (by show ¬ k < 0; omega)⟩, ⟨by rw [u2_a (by decide), u2_s]; rfl, trivial⟩, ⟨⟨by rw [show ([] : List Bool).length = 0 from rfl, u2_s]; rfl, trivial⟩, rfl⟩, by rw [u2_a (by decide), u2_k (by decide), u2_s]; rfl, by show 0 + 0 ≤ x.2.1; omega, by show 0 ≤ 8; omega, trivial, fun _ => trivial⟩ ⟨fun y y1 y2 y3 y4 => by rw [u2_row y4, u2_row y1, u2_row y1, u2_row y1], fun k hk => by rw [u2_a (by decide), u2_k (by omega), u2_k (by omega), u2_k (by omega)]⟩ hr

