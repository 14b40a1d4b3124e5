theorem KT.im {T U : Mem} {tn bn : Nat} {tx : Nat → Tx} (h : KT T tn bn tx) (e56 : U 56 = T 56) (e57 : U 57 = T 57) (e55 : U 55 3 = T 55 3) (e61 : U 61 = T 61) (e62 : U 62 = T 62) (hs : KS U) (hl : KL U) (hm : ∃ m, m ≤ 60 ∧ U 55 32 = nI m) (hp : ∃ p, p ≤ 96 ∧ U 55 6 = nI p) : KT U tn bn tx := by
  obtain ⟨a1, ⟨a2, a3⟩, a4, ⟨a5, a6⟩, a7, a8, a9, a10, a11⟩ := h
  have eB : aB U = aB T := by unfold aB; rw [e57]
  refine ⟨by rw [aR_o e56]; exact a1, ⟨a2.mv (by rw [e56]) (fun i _ => by rw [e56]), a3⟩, a4, ⟨by rw [e55]; exact a5, fun z => ?_⟩, hs, hl, hm, hp, ?_⟩
  · rw [e55] at z
    refine ⟨by rw [eB]; exact (a6 z).1, (a6 z).2.mv ?_ (fun i hi => ?_)⟩
    · rw [sR_s, sR_s, e57]
    · rw [sR_s, sR_s, e57]
  · unfold KY
    rw [e61, e62]
    exact a11
theorem KC.im {S : Shp} {I J T U : Mem} {tn : Nat} {tx : Nat → Tx} (h : KC S I T tn tx) (hJ : ∀ x, (1 ≤ x ∧ x < 22) ∨ x = 28 ∨ 77 ≤ x → J x = I x) (h03 : J 0 3 = I 0 3) (e56 : U 56 = T 56) (e57 : U 57 = T 57) (e55 : U 55 3 = T 55 3) (hs : CS J U) (hl : CL J U) (hw : CW J U) (hp : CP J U) : KC S J U tn tx := by
  obtain ⟨a1, a2, ⟨a3, a4⟩, a5, ⟨al, a6⟩, -, -, -, -⟩ := h
  have eB : aB U = aB T := by unfold aB; rw [e57]
  refine ⟨a1, ?_, ⟨by rw [h03, e55]; exact a3, fun z => ?_⟩, a5.mv (fun x h1 _ => hJ x (by omega)), ⟨al, a6.mv (hJ 28 (by omega)) (fun x h1 _ => hJ x (by omega))⟩, hs, hl, hw, hp⟩
  · rw [aR_o e56, ← a2]
    exact aC_out (fun x h1 h2 => hJ x (by omega))
  · rw [e55] at z
    rw [eB, ← a4 z]
    exact aC_out (fun x h1 h2 => hJ x (by omega))
theorem CS.mv {I J T U : Mem} (h : CS I T) (hJ : ∀ x, 32 ≤ x → x < 40 → J x = I x) (h1 : U 68 = T 68) (h2 : U 69 = T 69) (h3 : U 70 = T 70) : CS J U := by
  intro i hi
  rw [hJ (32 + 2 * i) (by omega) (by omega), hJ (33 + 2 * i) (by omega) (by omega), h1, h2, h3]
  exact h i hi
theorem CL.mv {I J T U : Mem} (h : CL I T) (hJ : ∀ x, 40 ≤ x → x < 55 → J x = I x) (h1 : U 71 = T 71) (h2 : U 72 = T 72) (h3 : U 73 = T 73) (h4 : U 74 = T 74) : CL J U := by
  intro i hi
  rw [hJ (40 + 3 * i) (by omega) (by omega), hJ (41 + 3 * i) (by omega) (by omega), hJ (42 + 3 * i) (by omega) (by omega), h1, h2, h3, h4]
  exact h i hi
theorem CW.mv {I J T U : Mem} (h : CW I T) (h0 : J 0 11 = I 0 11) (h31 : J 31 = I 31) (h1 : U 55 32 = T 55 32) (h2 : U 76 = T 76) : CW J U := by
  unfold CW
  rw [h0, h31, h1, h2]
  exact h
theorem CP.mv {I J T U : Mem} (h : CP I T) (h22 : J 23 1 = I 23 1) (h23 : J 24 = I 24) (h1 : U 55 6 = T 55 6) (h2 : U 60 = T 60) : CP J U := by
  unfold CP
  rw [h22, h23, h1, h2]
  exact h
theorem KS.mv {T U : Mem} (h : KS T) (h1 : U 68 = T 68) (h2 : U 69 = T 69) (h3 : U 70 = T 70) : KS U := by
  unfold KS
  rw [h1, h2, h3]
  exact h
theorem KL.mv {T U : Mem} (h : KL T) (h1 : U 71 = T 71) (h2 : U 72 = T 72) : KL U := by
  unfold KL
  rw [h1, h2]
  exact h
/-- the tape another -/
theorem K.tape {S : Shp} {I J T U : Mem} {tn bn : Nat} {tx : Nat → Tx} (h : K S I T tn bn tx) (hJ : ∀ x, x ≠ 23 → x ≠ 24 → x ≠ 22 → x ≠ 25 → J x = I x) (hU : ∀ x, x ≠ 55 → x ≠ 60 → U x = T x) (hU5 : ∀ k, k ≠ 6 → U 55 k = T 55 k) (hp : ∃ p, p ≤ 96 ∧ U 55 6 = nI p) (hc : CP J U) : K S J U tn bn tx := by
  obtain ⟨hT, hC⟩ := h
  obtain ⟨a1, a2, a4, a5, a7, a8, a9, a10, a11⟩ := id hT
  obtain ⟨c1, c2, c3, c5, c6, c7, c8, c9, c10⟩ := id hC
  exact ⟨hT.im (hU 56 (by decide) (by decide)) (hU 57 (by decide) (by decide)) (hU5 3 (by decide)) (hU 61 (by decide) (by decide)) (hU 62 (by decide) (by decide)) (a7.mv (hU 68 (by decide) (by decide)) (hU 69 (by decide) (by decide)) (hU 70 (by decide) (by decide))) (a8.mv (hU 71 (by decide) (by decide)) (hU 72 (by decide) (by decide))) (by rw [hU5 32 (by decide)]; exact a9) hp,
    hC.im (fun x hx => hJ x (by omega) (by omega) (by omega) (by omega)) (by rw [hJ 0 (by decide) (by decide) (by decide) (by decide)]) (hU 56 (by decide) (by decide)) (hU 57 (by decide) (by decide)) (hU5 3 (by decide)) (c7.mv (fun x h1 h2 => hJ x (by omega) (by omega) (by omega) (by omega)) (hU 68 (by decide) (by decide)) (hU 69 (by decide) (by decide)) (hU 70 (by decide) (by decide))) (c8.mv (fun x h1 h2 => hJ x (by omega) (by omega) (by omega) (by omega)) (hU 71 (by decide) (by decide)) (hU 72 (by decide) (by decide)) (hU 73 (by decide) (by decide)) (hU 74 (by decide) (by decide))) (c9.mv (by rw [hJ 0 (by decide) (by decide) (by decide) (by decide)]) (hJ 31 (by decide) (by decide) (by decide) (by decide)) (hU5 32 (by decide)) (hU 76 (by decide) (by decide))) hc⟩
/-- the row that waits another -/
theorem K.wait {S : Shp} {I J T U : Mem} {tn bn : Nat} {tx : Nat → Tx} (h : K S I T tn bn tx) (hJ : ∀ x, x ≠ 0 → x ≠ 31 → J x = I x) (hJ0 : J 0 3 = I 0 3) (hU : ∀ x, x ≠ 55 → x ≠ 76 → U x = T x) (hU5 : ∀ k, k ≠ 32 → U 55 k = T 55 k) (hp : ∃ p, p ≤ 60 ∧ U 55 32 = nI p) (hc : CW J U) : K S J U tn bn tx := by
  obtain ⟨hT, hC⟩ := h
  obtain ⟨a1, a2, a4, a5, a7, a8, a9, a10, a11⟩ := id hT
  obtain ⟨c1, c2, c3, c5, c6, c7, c8, c9, c10⟩ := id hC
  exact ⟨hT.im (hU 56 (by decide) (by decide)) (hU 57 (by decide) (by decide)) (hU5 3 (by decide)) (hU 61 (by decide) (by decide)) (hU 62 (by decide) (by decide)) (a7.mv (hU 68 (by decide) (by decide)) (hU 69 (by decide) (by decide)) (hU 70 (by decide) (by decide))) (a8.mv (hU 71 (by decide) (by decide)) (hU 72 (by decide) (by decide))) hp (by rw [hU5 6 (by decide)]; exact a10),
    hC.im (fun x hx => hJ x (by omega) (by omega)) hJ0 (hU 56 (by decide) (by decide)) (hU 57 (by decide) (by decide)) (hU5 3 (by decide)) (c7.mv (fun x h1 h2 => hJ x (by omega) (by omega)) (hU 68 (by decide) (by decide)) (hU 69 (by decide) (by decide)) (hU 70 (by decide) (by decide))) (c8.mv (fun x h1 h2 => hJ x (by omega) (by omega)) (hU 71 (by decide) (by decide)) (hU 72 (by decide) (by decide)) (hU 73 (by decide) (by decide)) (hU 74 (by decide) (by decide))) hc (c10.mv (by rw [hJ 23 (by decide) (by decide)]) (hJ 24 (by decide) (by decide)) (hU5 6 (by decide)) (hU 60 (by decide) (by decide)))⟩
/-- sheets others -/
theorem K.sheet {S : Shp} {I J T U : Mem} {tn bn : Nat} {tx : Nat → Tx} (h : K S I T tn bn tx) (hJ : ∀ x, x < 32 ∨ 40 ≤ x → J x = I x) (hU : ∀ x, x ≠ 68 → x ≠ 69 → x ≠ 70 → U x = T x) (hs : KS U) (hc : CS J U) : K S J U tn bn tx := by
  obtain ⟨hT, hC⟩ := h
  obtain ⟨a1, a2, a4, a5, a7, a8, a9, a10, a11⟩ := id hT
  obtain ⟨c1, c2, c3, c5, c6, c7, c8, c9, c10⟩ := id hC
  have u : ∀ x, x < 68 ∨ 70 < x → U x = T x := fun x hx => hU x (by omega) (by omega) (by omega)
  have u5 := u 55 (by decide)
  exact ⟨hT.im (u 56 (by decide)) (u 57 (by decide)) (by rw [u5]) (u 61 (by decide)) (u 62 (by decide)) hs (a8.mv (u 71 (by decide)) (u 72 (by decide))) (by rw [u5]; exact a9) (by rw [u5]; exact a10),
    hC.im (fun x hx => hJ x (by omega)) (by rw [hJ 0 (by omega)]) (u 56 (by decide)) (u 57 (by decide)) (by rw [u5]) hc (c8.mv (fun x h1 h2 => hJ x (by omega)) (u 71 (by decide)) (u 72 (by decide)) (u 73 (by decide)) (u 74 (by decide))) (c9.mv (by rw [hJ 0 (by omega)]) (hJ 31 (by omega)) (by rw [u5]) (u 76 (by decide))) (c10.mv (by rw [hJ 23 (by omega)]) (hJ 24 (by omega)) (by rw [u5]) (u 60 (by decide)))⟩
/-- slots others -/
theorem K.slot {S : Shp} {I J T U : Mem} {tn bn : Nat} {tx : Nat → Tx} (h : K S I T tn bn tx) (hJ : ∀ x, x < 40 ∨ 55 ≤ x → J x = I x) (hU : ∀ x, x < 71 ∨ 74 < x → U x = T x) (hs : KL U) (hc : CL J U) : K S J U tn bn tx := by
  obtain ⟨hT, hC⟩ := h
  obtain ⟨a1, a2, a4, a5, a7, a8, a9, a10, a11⟩ := id hT
  obtain ⟨c1, c2, c3, c5, c6, c7, c8, c9, c10⟩ := id hC
  have u5 := hU 55 (by decide)
  exact ⟨hT.im (hU 56 (by decide)) (hU 57 (by decide)) (by rw [u5]) (hU 61 (by decide)) (hU 62 (by decide)) (a7.mv (hU 68 (by decide)) (hU 69 (by decide)) (hU 70 (by decide))) hs (by rw [u5]; exact a9) (by rw [u5]; exact a10),
    hC.im (fun x hx => hJ x (by omega)) (by rw [hJ 0 (by omega)]) (hU 56 (by decide)) (hU 57 (by decide)) (by rw [u5]) (c7.mv (fun x h1 h2 => hJ x (by omega)) (hU 68 (by decide)) (hU 69 (by decide)) (hU 70 (by decide))) hc (c9.mv (by rw [hJ 0 (by omega)]) (hJ 31 (by omega)) (by rw [u5]) (hU 76 (by decide))) (c10.mv (by rw [hJ 23 (by omega)]) (hJ 24 (by omega)) (by rw [u5]) (hU 60 (by decide)))⟩
theorem x_textTold {G : GX} {S : Shp} {I T : Mem} {d tn bn : Nat} {tx : Nat → Tx} (hK : K S I T tn bn tx) (t y : Int32) (hd : 12 ≤ d) : PM G yX8_textTold cX8_textTold 3 (some .int) d 0 0 [.ref 0, .int t, .int y] S I (CO I T tn bn tx (vTxt tn tx t y)) := by
  obtain ⟨n, hn, hw, hA, hz, ht⟩ := hK.n
  have hsh := hK.2.1
  have hx14 := hK.2.2.2.2.1.1
  refine PM.of (ls := [some (.ref 0), some (.int t), some (.int y)]) (by decide) rfl (Nat.le_of_ble_eq_true rfl) rfl ?_
  show PW G RX8 "textTold" _ _ _ _ _ _ _ _ _ _ _ _
  by_cases hb : wi t 0 (nI tn - 1) = 0
  · rw [show vTxt tn tx t y = -1000000001 from if_pos hb]
    refine P_iload1 (pc' := 1) dX8_textTold_0 rfl ?_
    refine P_iconst (pc' := 2) dX8_textTold_1 rfl (v := 0) rfl ?_
    refine P_aload0 (pc' := 3) dX8_textTold_2 rfl ?_
    refine P_getr (pc' := 6) dX8_textTold_3 rfl fl_X8_10 rfl (l_0 hsh) (t_0 hsh) (q_0_0 hsh) ?_
    refine P_geti (pc' := 9) dX8_textTold_6 rfl fl_X8_117 rfl (l_1 hsh) (t_1 hsh) ?_
    refine P_as ht ?_
    refine P_iconst (pc' := 10) dX8_textTold_9 rfl (v := 1) rfl ?_
    refine P_isub (pc' := 11) dX8_textTold_10 rfl ?_
    refine P_callS3 (pc' := 14) dX8_textTold_11 rfl lk_X8_77 (c_X8_wi (d := 0) t 0 (nI tn - 1)) (by omega) (Nat.le_of_ble_eq_true rfl) (fun r S' I' hq => ?_)
    obtain ⟨rfl, rfl, rfl⟩ := hq
    refine P_if_eq (tgt := 26) (pc' := 17) dX8_textTold_14 rfl rfl (fun h14 => ?_) (fun h14 => ?_)
    · refine P_ldc (pc' := 28) dX8_textTold_26 rfl co_X8_81 ?_
      refine P_iret dX8_textTold_28 ?_
      exact CO.id hK
    · exact absurd hb h14
  · obtain ⟨j, hj, rfl⟩ := wi_n (by omega) hb
    obtain ⟨p, p1, p2, p3, p4, p5⟩ := hK.2.2.2.2.1.2 j hj
    rw [show vTxt tn tx (nI j) y = if y = 0 then nI (tx j).1 else if y = 1 then nI (tx j).2.2.1 else -1000000001 by unfold vTxt; rw [if_neg hb, nI_clamp (by omega)]]
    by_cases y0 : y = 0
    · subst y0
      rw [if_pos rfl]
      refine P_iload1 (pc' := 1) dX8_textTold_0 rfl ?_
      refine P_iconst (pc' := 2) dX8_textTold_1 rfl (v := 0) rfl ?_
      refine P_aload0 (pc' := 3) dX8_textTold_2 rfl ?_
      refine P_getr (pc' := 6) dX8_textTold_3 rfl fl_X8_10 rfl (l_0 hsh) (t_0 hsh) (q_0_0 hsh) ?_
      refine P_geti (pc' := 9) dX8_textTold_6 rfl fl_X8_117 rfl (l_1 hsh) (t_1 hsh) ?_
      refine P_as ht ?_
      refine P_iconst (pc' := 10) dX8_textTold_9 rfl (v := 1) rfl ?_
      refine P_isub (pc' := 11) dX8_textTold_10 rfl ?_
      refine P_callS3 (pc' := 14) dX8_textTold_11 rfl lk_X8_77 (c_X8_wi (d := 0) (nI j) 0 (nI tn - 1)) (by omega) (Nat.le_of_ble_eq_true rfl) (fun r S' I' hq => ?_)
      obtain ⟨rfl, rfl, rfl⟩ := hq
      refine P_if_eq (tgt := 26) (pc' := 17) dX8_textTold_14 rfl rfl (fun h14 => ?_) (fun h14 => ?_)
      · exact absurd h14 hb
      · refine P_aload0 (pc' := 18) dX8_textTold_17 rfl ?_
        refine P_getr (pc' := 21) dX8_textTold_18 rfl fl_X8_40 rfl (l_0 hsh) (t_0 hsh) (q_0_6 hsh) ?_
        refine P_iload1 (pc' := 22) dX8_textTold_21 rfl ?_
        refine P_aald15 (pc' := 23) dX8_textTold_22 rfl (l_26 hsh) (t_26 hsh) (j := j) rfl (by omega) (by decide) p1 ?_
        refine P_nonnull (tgt := 29) dX8_textTold_23 rfl ?_
        refine P_iload2 (pc' := 30) dX8_textTold_29 rfl ?_
        refine P_look (tgt := 56) dX8_textTold_30 (by decide) rfl rfl ?_
        refine P_aload0 (pc' := 57) dX8_textTold_56 rfl ?_
        refine P_getr (pc' := 60) dX8_textTold_57 rfl fl_X8_40 rfl (l_0 hsh) (t_0 hsh) (q_0_6 hsh) ?_
        refine P_iload1 (pc' := 61) dX8_textTold_60 rfl ?_
        refine P_aald15 (pc' := 62) dX8_textTold_61 rfl (l_26 hsh) (t_26 hsh) (j := j) rfl (by omega) (by decide) p1 ?_
        refine P_geti (pc' := 65) dX8_textTold_62 rfl fl_X8_230 rfl (Nat.lt_of_le_of_lt (Nat.le_add_right p 2) p2.2.2.1) p2.2.2.2.1 ?_
        refine P_iret dX8_textTold_65 ?_
        rw [p3]
        exact CO.id hK
    · by_cases y1 : y = 1
      · subst y1
        rw [if_neg (by decide), if_pos rfl]
        refine P_iload1 (pc' := 1) dX8_textTold_0 rfl ?_
        refine P_iconst (pc' := 2) dX8_textTold_1 rfl (v := 0) rfl ?_
        refine P_aload0 (pc' := 3) dX8_textTold_2 rfl ?_
        refine P_getr (pc' := 6) dX8_textTold_3 rfl fl_X8_10 rfl (l_0 hsh) (t_0 hsh) (q_0_0 hsh) ?_
        refine P_geti (pc' := 9) dX8_textTold_6 rfl fl_X8_117 rfl (l_1 hsh) (t_1 hsh) ?_
        refine P_as ht ?_
        refine P_iconst (pc' := 10) dX8_textTold_9 rfl (v := 1) rfl ?_
        refine P_isub (pc' := 11) dX8_textTold_10 rfl ?_
        refine P_callS3 (pc' := 14) dX8_textTold_11 rfl lk_X8_77 (c_X8_wi (d := 0) (nI j) 0 (nI tn - 1)) (by omega) (Nat.le_of_ble_eq_true rfl) (fun r S' I' hq => ?_)
        obtain ⟨rfl, rfl, rfl⟩ := hq
        refine P_if_eq (tgt := 26) (pc' := 17) dX8_textTold_14 rfl rfl (fun h14 => ?_) (fun h14 => ?_)
        · exact absurd h14 hb
        · refine P_aload0 (pc' := 18) dX8_textTold_17 rfl ?_
          refine P_getr (pc' := 21) dX8_textTold_18 rfl fl_X8_40 rfl (l_0 hsh) (t_0 hsh) (q_0_6 hsh) ?_
          refine P_iload1 (pc' := 22) dX8_textTold_21 rfl ?_
          refine P_aald15 (pc' := 23) dX8_textTold_22 rfl (l_26 hsh) (t_26 hsh) (j := j) rfl (by omega) (by decide) p1 ?_
          refine P_nonnull (tgt := 29) dX8_textTold_23 rfl ?_
          refine P_iload2 (pc' := 30) dX8_textTold_29 rfl ?_
          refine P_look (tgt := 66) dX8_textTold_30 (by decide) rfl rfl ?_
          refine P_aload0 (pc' := 67) dX8_textTold_66 rfl ?_
          refine P_getr (pc' := 70) dX8_textTold_67 rfl fl_X8_40 rfl (l_0 hsh) (t_0 hsh) (q_0_6 hsh) ?_
          refine P_iload1 (pc' := 71) dX8_textTold_70 rfl ?_
          refine P_aald15 (pc' := 72) dX8_textTold_71 rfl (l_26 hsh) (t_26 hsh) (j := j) rfl (by omega) (by decide) p1 ?_
          refine P_geti (pc' := 75) dX8_textTold_72 rfl fl_X8_233 rfl (Nat.lt_of_le_of_lt (Nat.le_add_right p 2) p2.2.2.1) p2.2.2.2.1 ?_
          refine P_iret dX8_textTold_75 ?_
          rw [p4]
          exact CO.id hK
      · rw [if_neg y0, if_neg y1]
        refine P_iload1 (pc' := 1) dX8_textTold_0 rfl ?_
        refine P_iconst (pc' := 2) dX8_textTold_1 rfl (v := 0) rfl ?_
        refine P_aload0 (pc' := 3) dX8_textTold_2 rfl ?_
        refine P_getr (pc' := 6) dX8_textTold_3 rfl fl_X8_10 rfl (l_0 hsh) (t_0 hsh) (q_0_0 hsh) ?_
        refine P_geti (pc' := 9) dX8_textTold_6 rfl fl_X8_117 rfl (l_1 hsh) (t_1 hsh) ?_
        refine P_as ht ?_
        refine P_iconst (pc' := 10) dX8_textTold_9 rfl (v := 1) rfl ?_
        refine P_isub (pc' := 11) dX8_textTold_10 rfl ?_
        refine P_callS3 (pc' := 14) dX8_textTold_11 rfl lk_X8_77 (c_X8_wi (d := 0) (nI j) 0 (nI tn - 1)) (by omega) (Nat.le_of_ble_eq_true rfl) (fun r S' I' hq => ?_)
        obtain ⟨rfl, rfl, rfl⟩ := hq
        refine P_if_eq (tgt := 26) (pc' := 17) dX8_textTold_14 rfl rfl (fun h14 => ?_) (fun h14 => ?_)
        · exact absurd h14 hb
        · refine P_aload0 (pc' := 18) dX8_textTold_17 rfl ?_
          refine P_getr (pc' := 21) dX8_textTold_18 rfl fl_X8_40 rfl (l_0 hsh) (t_0 hsh) (q_0_6 hsh) ?_
          refine P_iload1 (pc' := 22) dX8_textTold_21 rfl ?_
          refine P_aald15 (pc' := 23) dX8_textTold_22 rfl (l_26 hsh) (t_26 hsh) (j := j) rfl (by omega) (by decide) p1 ?_
          refine P_nonnull (tgt := 29) dX8_textTold_23 rfl ?_
          refine P_iload2 (pc' := 30) dX8_textTold_29 rfl ?_
          refine P_look (tgt := 76) dX8_textTold_30 (by decide) (by rw [lv_osw y0 (by decide), lv_osw y1 (by decide)]) rfl ?_
          refine P_ldc (pc' := 78) dX8_textTold_76 rfl co_X8_81 ?_
          refine P_iret dX8_textTold_78 ?_
          exact CO.id hK
/-- what a text gives, in the class -/
theorem gv_K {S : Shp} {I T : Mem} {tn bn t p : Nat} {tx : Nat → Tx} (hK : K S I T tn bn tx) (ht : t < tn) (p2 : TxOk S I p (tx t).2.1 (max (tx t).2.2.1 1) (fun k => enS ((tx t).2.2.2 k))) (f : Nat → Int32) : K S (sR I (p + 2) f) T tn bn tx ∧ ∀ x, 55 ≤ x → x < 77 → sR I (p + 2) f x = I x := by
  have h1 := p2.1
  have h2 := p2.2.1
  refine ⟨hK.th (fun x hx _ => sR_n (fun z => hx (Or.inr ⟨by omega, by omega⟩))) ?_, fun x h3 h4 => sR_n (by omega)⟩
  obtain ⟨al, ha⟩ := hK.2.2.2.2.2.1
  exact ⟨al, ha.mv (sR_n (by omega)) (fun x hx h3 => sR_n (by omega))⟩
def vFee (tn : Nat) (tx : Nat → Tx) (A : Nat → Int32) : Int32 := match lastK tx 1 tn with
  | none => A 6
  | some t => evT (tx t) (A 6) (A 2) 0
theorem x_fee {G : GX} {S : Shp} {I T : Mem} {d tn bn : Nat} {tx : Nat → Tx} (hK : K S I T tn bn tx) (hd : 12 ≤ d) : PM G yX8_fee cX8_fee 2 (some .int) d 0 0 [.ref 0] S I (CO I T tn bn tx (vFee tn tx (aR T))) := by
  obtain ⟨n, hn, hw, hA, hz, ht⟩ := hK.n
  have hsh := hK.2.1
  obtain ⟨s0, s1, s2, s3, s4, s5, s6, s7⟩ := hK.sc
  refine PM.of (ls := [some (.ref 0), none]) (by decide) rfl (Nat.le_of_ble_eq_true rfl) rfl ?_
  show PW G RX8 "fee" _ _ _ _ _ _ _ _ _ _ _ _
  unfold vFee
  cases hl : lastK tx 1 tn with
  | none =>
    have ec : ctP S tx 1 tn = none := by unfold ctP; rw [hl]
    refine P_aload0 (pc' := 1) dX8_fee_0 rfl ?_
    refine P_iconst (pc' := 2) dX8_fee_1 rfl (v := 1) rfl ?_
    refine P_aload0 (pc' := 3) dX8_fee_2 rfl ?_
    refine P_getr (pc' := 6) dX8_fee_3 rfl fl_X8_10 rfl (l_0 hsh) (t_0 hsh) (q_0_0 hsh) ?_
    refine P_geti (pc' := 9) dX8_fee_6 rfl fl_X8_117 rfl (l_1 hsh) (t_1 hsh) ?_
    refine P_as ht ?_
    refine P_callV2 (pc' := 12) dX8_fee_9 rfl lk_X8_119 (l_0 hsh) (t_0 hsh) (c_X8_counting (d := 3) (k := 1) hsh hK.2.2.2.2.1 (by decide) (Nat.le_refl tn) (by omega)) (by omega) (Nat.le_of_ble_eq_true rfl) (fun r S' I' hq => ?_)
    obtain ⟨rfl, rfl, rfl⟩ := hq
    rw [ec]
    refine P_qstore1 (pc' := 13) (x := none) dX8_fee_12 rfl (by decide) rfl ?_
    refine P_qload1 (pc' := 14) (x := none) dX8_fee_13 rfl ?_
    refine P_nonnullN (pc' := 17) dX8_fee_14 rfl ?_
    refine P_aload0 (pc' := 18) dX8_fee_17 rfl ?_
    refine P_getr (pc' := 21) dX8_fee_18 rfl fl_X8_10 rfl (l_0 hsh) (t_0 hsh) (q_0_0 hsh) ?_
    refine P_geti (pc' := 24) dX8_fee_21 rfl fl_X8_176 rfl (l_1 hsh) (t_1 hsh) ?_
    refine P_goto (tgt := 46) dX8_fee_24 rfl ?_
    refine P_iret dX8_fee_46 ?_
    rw [s6]
    exact CO.id hK
  | some t =>
    have htt := lastK_lt hl
    obtain ⟨p, p1, p2, p3, p4, p5⟩ := hK.2.2.2.2.1.2 t htt.1
    have ec : ctP S tx 1 tn = some p := by unfold ctP; rw [hl]; exact p1
    obtain ⟨hK2, hf2⟩ := gv_K hK htt.1 p2 (gvG (aR T 6) (aR T 2) 0 (max (tx t).2.2.1 1) (fun k => enS ((tx t).2.2.2 k)) (tx t).2.1 0 (0, I (p + 2))).2
    refine P_aload0 (pc' := 1) dX8_fee_0 rfl ?_
    refine P_iconst (pc' := 2) dX8_fee_1 rfl (v := 1) rfl ?_
    refine P_aload0 (pc' := 3) dX8_fee_2 rfl ?_
    refine P_getr (pc' := 6) dX8_fee_3 rfl fl_X8_10 rfl (l_0 hsh) (t_0 hsh) (q_0_0 hsh) ?_
    refine P_geti (pc' := 9) dX8_fee_6 rfl fl_X8_117 rfl (l_1 hsh) (t_1 hsh) ?_
    refine P_as ht ?_
    refine P_callV2 (pc' := 12) dX8_fee_9 rfl lk_X8_119 (l_0 hsh) (t_0 hsh) (c_X8_counting (d := 3) (k := 1) hsh hK.2.2.2.2.1 (by decide) (Nat.le_refl tn) (by omega)) (by omega) (Nat.le_of_ble_eq_true rfl) (fun r S' I' hq => ?_)
    obtain ⟨rfl, rfl, rfl⟩ := hq
    rw [ec]
    show PW _ _ _ _ _ _ _ _ _ _ _ _ [.ref p] _ _
    refine P_astore1 (pc' := 13) dX8_fee_12 rfl (by decide) rfl ?_
    refine P_aload1 (pc' := 14) dX8_fee_13 rfl ?_
    refine P_nonnull (tgt := 27) dX8_fee_14 rfl ?_
    refine P_aload1 (pc' := 28) dX8_fee_27 rfl ?_
    refine P_aload0 (pc' := 29) dX8_fee_28 rfl ?_
    refine P_getr (pc' := 32) dX8_fee_29 rfl fl_X8_10 rfl (l_0 hsh) (t_0 hsh) (q_0_0 hsh) ?_
    refine P_geti (pc' := 35) dX8_fee_32 rfl fl_X8_176 rfl (l_1 hsh) (t_1 hsh) ?_
    refine P_as s6 ?_
    refine P_aload0 (pc' := 36) dX8_fee_35 rfl ?_
    refine P_getr (pc' := 39) dX8_fee_36 rfl fl_X8_10 rfl (l_0 hsh) (t_0 hsh) (q_0_0 hsh) ?_
    refine P_geti (pc' := 42) dX8_fee_39 rfl fl_X8_166 rfl (l_1 hsh) (t_1 hsh) ?_
    refine P_as s2 ?_
    refine P_iconst (pc' := 43) dX8_fee_42 rfl (v := 0) rfl ?_
    refine P_callV3 (pc' := 46) dX8_fee_43 rfl lk_X8_214 (Nat.lt_of_le_of_lt (Nat.le_add_right p 2) p2.2.2.1) p2.2.2.2.1 (c_X7_gives (d := 3) p2 (aR T 6) (aR T 2) 0 (by omega)) (by omega) (Nat.le_of_ble_eq_true rfl) (fun r S' I' hq => ?_)
    obtain ⟨rfl, rfl, rfl⟩ := hq
    refine P_iret dX8_fee_46 ?_
    rw [(hK.1.2.1.2 t htt.1).ev]
    exact ⟨rfl, hK2, hf2⟩
def vFin (tn : Nat) (tx : Nat → Tx) (A : Nat → Int32) (b : Int32) : Int32 := if wi b 0 (A 1 - 1) = 0 then -1000000001 else match lastK tx 2 tn with
  | none => A (19 + 5 * b.toNatClampNeg)
  | some t => evT (tx t) (A (19 + 5 * b.toNatClampNeg)) (A (20 + 5 * b.toNatClampNeg)) 0
theorem x_fine {G : GX} {S : Shp} {I T : Mem} {d tn bn : Nat} {tx : Nat → Tx} (hK : K S I T tn bn tx) (b : Int32) (hd : 12 ≤ d) : PM G yX8_fine cX8_fine 4 (some .int) d 0 0 [.ref 0, .int b] S I (CO I T tn bn tx (vFin tn tx (aR T) b)) := by
  obtain ⟨n, hn, hw, hA, hz, ht⟩ := hK.n
  have hsh := hK.2.1
  refine PM.of (ls := [some (.ref 0), some (.int b), none, none]) (by decide) rfl (Nat.le_of_ble_eq_true rfl) rfl ?_
  show PW G RX8 "fine" _ _ _ _ _ _ _ _ _ _ _ _
  by_cases hb : wi b 0 (nI n - 1) = 0
  · rw [show vFin tn tx (aR T) b = -1000000001 by unfold vFin; rw [hw.1, if_pos hb]]
    refine P_aload0 (pc' := 1) dX8_fine_0 rfl ?_
    refine P_iload1 (pc' := 2) dX8_fine_1 rfl ?_
    refine P_callV1 (pc' := 5) dX8_fine_2 rfl lk_X8_90 (l_0 hsh) (t_0 hsh) (c_X8_isBeggar (d := 1) b hsh hz (by omega)) (by omega) (Nat.le_of_ble_eq_true rfl) (fun r S' I' hq => ?_)
    obtain ⟨rfl, rfl, rfl⟩ := hq
    refine P_if_ne (tgt := 11) (pc' := 8) dX8_fine_5 rfl rfl (fun h5 => ?_) (fun h5 => ?_)
    · exact absurd hb h5
    · refine P_ldc (pc' := 10) dX8_fine_8 rfl co_X8_81 ?_
      refine P_iret dX8_fine_10 ?_
      exact CO.id hK
  · obtain ⟨j, hj, rfl⟩ := wi_n (by omega) hb
    obtain ⟨r0, r1, r2, r3, r4⟩ := hK.rd (show j < 9 by omega)
    have ev : vFin tn tx (aR T) (nI j) = match lastK tx 2 tn with
        | none => aR T (19 + 5 * j)
        | some t => evT (tx t) (aR T (19 + 5 * j)) (aR T (20 + 5 * j)) 0 := by unfold vFin; rw [hw.1, if_neg hb, nI_clamp (by omega)]
    rw [ev]
    cases hl : lastK tx 2 tn with
    | none =>
      have ec : ctP S tx 2 tn = none := by unfold ctP; rw [hl]
      refine P_aload0 (pc' := 1) dX8_fine_0 rfl ?_
      refine P_iload1 (pc' := 2) dX8_fine_1 rfl ?_
      refine P_callV1 (pc' := 5) dX8_fine_2 rfl lk_X8_90 (l_0 hsh) (t_0 hsh) (c_X8_isBeggar (d := 1) (nI j) hsh hz (by omega)) (by omega) (Nat.le_of_ble_eq_true rfl) (fun r S' I' hq => ?_)
      obtain ⟨rfl, rfl, rfl⟩ := hq
      refine P_if_ne (tgt := 11) (pc' := 8) dX8_fine_5 rfl rfl (fun h5 => ?_) (fun h5 => ?_)
      · refine P_aload0 (pc' := 12) dX8_fine_11 rfl ?_
        refine P_getr (pc' := 15) dX8_fine_12 rfl fl_X8_10 rfl (l_0 hsh) (t_0 hsh) (q_0_0 hsh) ?_
        refine P_getr (pc' := 18) dX8_fine_15 rfl fl_X8_102 rfl (l_1 hsh) (t_1 hsh) (q_1_4 hsh) ?_
        refine P_iload1 (pc' := 19) dX8_fine_18 rfl ?_
        refine P_iald (pc' := 20) dX8_fine_19 rfl (l_6 hsh) (t_6 hsh) (j := j) rfl (by omega) (by decide) ?_
        refine P_as r3 ?_
        refine P_istore2 (pc' := 21) dX8_fine_20 rfl (by decide) rfl ?_
        refine P_aload0 (pc' := 22) dX8_fine_21 rfl ?_
        refine P_iconst (pc' := 23) dX8_fine_22 rfl (v := 2) rfl ?_
        refine P_aload0 (pc' := 24) dX8_fine_23 rfl ?_
        refine P_getr (pc' := 27) dX8_fine_24 rfl fl_X8_10 rfl (l_0 hsh) (t_0 hsh) (q_0_0 hsh) ?_
        refine P_geti (pc' := 30) dX8_fine_27 rfl fl_X8_117 rfl (l_1 hsh) (t_1 hsh) ?_
        refine P_as ht ?_
        refine P_callV2 (pc' := 33) dX8_fine_30 rfl lk_X8_119 (l_0 hsh) (t_0 hsh) (c_X8_counting (d := 3) (k := 2) hsh hK.2.2.2.2.1 (by decide) (Nat.le_refl tn) (by omega)) (by omega) (Nat.le_of_ble_eq_true rfl) (fun r S' I' hq => ?_)
        obtain ⟨rfl, rfl, rfl⟩ := hq
        rw [ec]
        refine P_qstore3 (pc' := 34) (x := none) dX8_fine_33 rfl (by decide) rfl ?_
        refine P_qload3 (pc' := 35) (x := none) dX8_fine_34 rfl ?_
        refine P_nonnullN (pc' := 38) dX8_fine_35 rfl ?_
        refine P_iload2 (pc' := 39) dX8_fine_38 rfl ?_
        refine P_goto (tgt := 57) dX8_fine_39 rfl ?_
        refine P_iret dX8_fine_57 ?_
        exact CO.id hK
      · exact absurd h5 hb
    | some t =>
      have htt := lastK_lt hl
      obtain ⟨p, p1, p2, p3, p4, p5⟩ := hK.2.2.2.2.1.2 t htt.1
      have ec : ctP S tx 2 tn = some p := by unfold ctP; rw [hl]; exact p1
      obtain ⟨hK2, hf2⟩ := gv_K hK htt.1 p2 (gvG (aR T (19 + 5 * j)) (aR T (20 + 5 * j)) 0 (max (tx t).2.2.1 1) (fun k => enS ((tx t).2.2.2 k)) (tx t).2.1 0 (0, I (p + 2))).2
      refine P_aload0 (pc' := 1) dX8_fine_0 rfl ?_
      refine P_iload1 (pc' := 2) dX8_fine_1 rfl ?_
      refine P_callV1 (pc' := 5) dX8_fine_2 rfl lk_X8_90 (l_0 hsh) (t_0 hsh) (c_X8_isBeggar (d := 1) (nI j) hsh hz (by omega)) (by omega) (Nat.le_of_ble_eq_true rfl) (fun r S' I' hq => ?_)
      obtain ⟨rfl, rfl, rfl⟩ := hq
      refine P_if_ne (tgt := 11) (pc' := 8) dX8_fine_5 rfl rfl (fun h5 => ?_) (fun h5 => ?_)
      · refine P_aload0 (pc' := 12) dX8_fine_11 rfl ?_
        refine P_getr (pc' := 15) dX8_fine_12 rfl fl_X8_10 rfl (l_0 hsh) (t_0 hsh) (q_0_0 hsh) ?_
        refine P_getr (pc' := 18) dX8_fine_15 rfl fl_X8_102 rfl (l_1 hsh) (t_1 hsh) (q_1_4 hsh) ?_
        refine P_iload1 (pc' := 19) dX8_fine_18 rfl ?_
        refine P_iald (pc' := 20) dX8_fine_19 rfl (l_6 hsh) (t_6 hsh) (j := j) rfl (by omega) (by decide) ?_
        refine P_as r3 ?_
        refine P_istore2 (pc' := 21) dX8_fine_20 rfl (by decide) rfl ?_
        refine P_aload0 (pc' := 22) dX8_fine_21 rfl ?_
        refine P_iconst (pc' := 23) dX8_fine_22 rfl (v := 2) rfl ?_
        refine P_aload0 (pc' := 24) dX8_fine_23 rfl ?_
        refine P_getr (pc' := 27) dX8_fine_24 rfl fl_X8_10 rfl (l_0 hsh) (t_0 hsh) (q_0_0 hsh) ?_
        refine P_geti (pc' := 30) dX8_fine_27 rfl fl_X8_117 rfl (l_1 hsh) (t_1 hsh) ?_
        refine P_as ht ?_
        refine P_callV2 (pc' := 33) dX8_fine_30 rfl lk_X8_119 (l_0 hsh) (t_0 hsh) (c_X8_counting (d := 3) (k := 2) hsh hK.2.2.2.2.1 (by decide) (Nat.le_refl tn) (by omega)) (by omega) (Nat.le_of_ble_eq_true rfl) (fun r S' I' hq => ?_)
        obtain ⟨rfl, rfl, rfl⟩ := hq
        rw [ec]
        show PW _ _ _ _ _ _ _ _ _ _ _ _ [.ref p] _ _
        refine P_astore3 (pc' := 34) dX8_fine_33 rfl (by decide) rfl ?_
        refine P_aload3 (pc' := 35) dX8_fine_34 rfl ?_
        refine P_nonnull (tgt := 42) dX8_fine_35 rfl ?_
        refine P_aload3 (pc' := 43) dX8_fine_42 rfl ?_
        refine P_iload2 (pc' := 44) dX8_fine_43 rfl ?_
        refine P_aload0 (pc' := 45) dX8_fine_44 rfl ?_
        refine P_getr (pc' := 48) dX8_fine_45 rfl fl_X8_10 rfl (l_0 hsh) (t_0 hsh) (q_0_0 hsh) ?_
        refine P_getr (pc' := 51) dX8_fine_48 rfl fl_X8_105 rfl (l_1 hsh) (t_1 hsh) (q_1_5 hsh) ?_
        refine P_iload1 (pc' := 52) dX8_fine_51 rfl ?_
        refine P_iald (pc' := 53) dX8_fine_52 rfl (l_7 hsh) (t_7 hsh) (j := j) rfl (by omega) (by decide) ?_
        refine P_as r4 ?_
        refine P_iconst (pc' := 54) dX8_fine_53 rfl (v := 0) rfl ?_
        refine P_callV3 (pc' := 57) dX8_fine_54 rfl lk_X8_214 (Nat.lt_of_le_of_lt (Nat.le_add_right p 2) p2.2.2.1) p2.2.2.2.1 (c_X7_gives (d := 3) p2 (aR T (19 + 5 * j)) (aR T (20 + 5 * j)) 0 (by omega)) (by omega) (Nat.le_of_ble_eq_true rfl) (fun r S' I' hq => ?_)
        obtain ⟨rfl, rfl, rfl⟩ := hq
        refine P_iret dX8_fine_57 ?_
        rw [(hK.1.2.1.2 t htt.1).ev]
        exact ⟨rfl, hK2, hf2⟩
      · exact absurd h5 hb

