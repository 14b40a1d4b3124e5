/-! ===== calls of the reference ===== -/
theorem KT.n {T I : Mem} {tn bn : Nat} {tx : Nat → Tx} (h : KT T tn bn tx) (hI : RI T I) : ∃ n, n ≤ 8 ∧ WA (aR T) n ∧ aR I = aR T ∧ I 56 1 = nI n ∧ RT I tn tx ∧ RTd tn tx := by
  obtain ⟨n, hn, hw⟩ := h.1.1
  have e := hI 56 (by decide) (by decide)
  refine ⟨n, hn, hw, hI.a, ?_, h.2.1.1.mv (by rw [e]) (fun i _ => by rw [e]), fun t ht => (h.2.1.2 t ht).1⟩
  rw [aR_rd I (by decide), hI.a]; exact hw.1
theorem RI.r {T I : Mem} (h : RI T I) {i : Nat} (hi : i < 61) : I 56 i = aR T i := by rw [aR_rd I hi, h.a]
theorem RO.pi {S : Shp} {T I J : Mem} {v : Int32} (h : RI T I) (hp : PsR I (aR T) J) : RO S I T v (some (.int v)) S J := by
  have := RO.ps (S := S) (v := v) h hp
  rw [nw_id] at this
  exact this
theorem cm_ps {I : Mem} {n : Nat} {k c s : Int32} (hn : n ≤ 8) : PsR I (aAdd (aR I) n k c s) (u2 (u2 (u2 (u2 (u2 (u2 I 56 (16 + 5 * n) k) 56 (17 + 5 * n) c) 56 (18 + 5 * n) s) 56 (19 + 5 * n) 0) 56 (20 + 5 * n) 0) 56 1 (nI (n + 1))) := by
  refine ⟨?_, (((((FrR.rf.put (by omega)).put (by omega)).put (by omega)).put (by omega)).put (by omega)).put (by omega)⟩
  unfold aAdd
  rw [aR_u (by omega), aR_u (by omega), aR_u (by omega), aR_u (by omega), aR_u (by omega), aR_u (by omega)]
theorem r_beggar {G : GX} {S : Shp} {I T : Mem} {d tn bn : Nat} {tx : Nat → Tx} (hT : KT T tn bn tx) (hsh : SHP S) (hI : RI T I) (k c s : Int32) (hd : 12 ≤ d) : PM G yX9_beggar cX9_beggar 4 (some .int) d 0 0 [.ref 55, .int k, .int c, .int s] S I (RO S I (nw T (oBeg (aR T) k c s).2) (oBeg (aR T) k c s).1) := by
  obtain ⟨n, hn, hw, eR, hz, hr, hrd⟩ := hT.n hI
  refine PM.of (ls := [some (.ref 55), some (.int k), some (.int c), some (.int s)]) (by decide) rfl (Nat.le_of_ble_eq_true rfl) rfl ?_
  show PW G RX9 "beggar" _ _ _ _ _ _ _ _ _ _ _ _
  refine P_iload1 (pc' := 1) dX9_beggar_0 rfl ?_
  refine P_iconst (pc' := 2) dX9_beggar_1 rfl (v := 0) rfl ?_
  refine P_iconst (pc' := 3) dX9_beggar_2 rfl (v := 5) rfl ?_
  refine P_callS3 (pc' := 6) dX9_beggar_3 rfl lk_X9_75 (c_X9_in (d := 0) k 0 5) (by omega) (Nat.le_of_ble_eq_true rfl) (fun r S' I' hq => ?_)
  obtain ⟨rfl, rfl, rfl⟩ := hq
  refine P_if_eq (tgt := 29) (pc' := 9) dX9_beggar_6 rfl rfl (fun h6 => ?_) (fun h6 => ?_)
  · refine P_ldc (pc' := 31) dX9_beggar_29 rfl co_X9_83 ?_
    refine P_iret dX9_beggar_31 ?_
    first
      | (refine RO.of (?_ : oBeg (aR T) k c s = (-1000000001, aR T)) hI; unfold oBeg; rw [if_pos h6]; done)
      | (refine RO.of (?_ : oBeg (aR T) k c s = (-1000000001, aR T)) hI; unfold oBeg; rw [if_neg h6, if_pos h16]; done)
      | (refine RO.of (?_ : oBeg (aR T) k c s = (-1000000001, aR T)) hI; unfold oBeg; rw [if_neg h6, if_neg h16, if_pos h26])
  · refine P_iload2 (pc' := 10) dX9_beggar_9 rfl ?_
    refine P_iconst (pc' := 11) dX9_beggar_10 rfl (v := 0) rfl ?_
    refine P_bipush (pc' := 13) dX9_beggar_11 rfl (v := 8) rfl ?_
    refine P_callS3 (pc' := 16) dX9_beggar_13 rfl lk_X9_75 (c_X9_in (d := 0) c 0 8) (by omega) (Nat.le_of_ble_eq_true rfl) (fun r S' I' hq => ?_)
    obtain ⟨rfl, rfl, rfl⟩ := hq
    refine P_if_eq (tgt := 29) (pc' := 19) dX9_beggar_16 rfl rfl (fun h16 => ?_) (fun h16 => ?_)
    · refine P_ldc (pc' := 31) dX9_beggar_29 rfl co_X9_83 ?_
      refine P_iret dX9_beggar_31 ?_
      first
        | (refine RO.of (?_ : oBeg (aR T) k c s = (-1000000001, aR T)) hI; unfold oBeg; rw [if_pos h6]; done)
        | (refine RO.of (?_ : oBeg (aR T) k c s = (-1000000001, aR T)) hI; unfold oBeg; rw [if_neg h6, if_pos h16]; done)
        | (refine RO.of (?_ : oBeg (aR T) k c s = (-1000000001, aR T)) hI; unfold oBeg; rw [if_neg h6, if_neg h16, if_pos h26])
    · refine P_iload3 (pc' := 20) dX9_beggar_19 rfl ?_
      refine P_iconst (pc' := 21) dX9_beggar_20 rfl (v := 0) rfl ?_
      refine P_bipush (pc' := 23) dX9_beggar_21 rfl (v := 20) rfl ?_
      refine P_callS3 (pc' := 26) dX9_beggar_23 rfl lk_X9_75 (c_X9_in (d := 0) s 0 20) (by omega) (Nat.le_of_ble_eq_true rfl) (fun r S' I' hq => ?_)
      obtain ⟨rfl, rfl, rfl⟩ := hq
      refine P_if_ne (tgt := 32) (pc' := 29) dX9_beggar_26 rfl rfl (fun h26 => ?_) (fun h26 => ?_)
      · refine P_aload0 (pc' := 33) dX9_beggar_32 rfl ?_
        refine P_getr (pc' := 36) dX9_beggar_33 rfl fl_X9_9 rfl (l_55 hsh) (t_55 hsh) (q_55_0 hsh) ?_
        refine P_iconst (pc' := 37) dX9_beggar_36 rfl (v := 1) rfl ?_
        refine P_iald (pc' := 38) dX9_beggar_37 rfl (l_56 hsh) (t_56 hsh) (j := 1) rfl (by decide) (by decide) ?_
        refine P_as hz ?_
        refine P_bipush (pc' := 40) dX9_beggar_38 rfl (v := 8) rfl ?_
        refine P_icmp_ne (tgt := 48) (pc' := 43) dX9_beggar_40 rfl rfl (fun h40 => ?_) (fun h40 => ?_)
        · refine P_aload0 (pc' := 49) dX9_beggar_48 rfl ?_
          refine P_iload1 (pc' := 50) dX9_beggar_49 rfl ?_
          refine P_iload2 (pc' := 51) dX9_beggar_50 rfl ?_
          refine P_iload3 (pc' := 52) dX9_beggar_51 rfl ?_
          refine P_callV3 (pc' := 55) dX9_beggar_52 rfl lk_X9_85 (l_55 hsh) (t_55 hsh) (c_X9_comes (d := 2) (n := n) hsh hz hn (by omega)) (by omega) (Nat.le_of_ble_eq_true rfl) (fun r S' I' hq => ?_)
          obtain ⟨rfl, rfl, rfl⟩ := hq
          refine P_iret dX9_beggar_55 ?_
          first
            | (refine RO.of (?_ : oBeg (aR T) k c s = (-1000000003, aR T)) hI; unfold oBeg; rw [if_neg h6, if_neg h16, if_neg h26, hw.1, if_pos h40])
            | (refine RO.to (?_ : oBeg (aR T) k c s = (nI n, aAdd (aR I) n k c s)) hI (cm_ps hn); unfold oBeg; rw [if_neg h6, if_neg h16, if_neg h26, hw.1, if_neg h40, nI_clamp (by omega), eR])
        · refine P_ldc (pc' := 45) dX9_beggar_43 rfl co_X9_84 ?_
          refine P_goto (tgt := 55) dX9_beggar_45 rfl ?_
          refine P_iret dX9_beggar_55 ?_
          first
            | (refine RO.of (?_ : oBeg (aR T) k c s = (-1000000003, aR T)) hI; unfold oBeg; rw [if_neg h6, if_neg h16, if_neg h26, hw.1, if_pos h40])
            | (refine RO.to (?_ : oBeg (aR T) k c s = (nI n, aAdd (aR I) n k c s)) hI (cm_ps hn); unfold oBeg; rw [if_neg h6, if_neg h16, if_neg h26, hw.1, if_neg h40, nI_clamp (by omega), eR])
      · refine P_ldc (pc' := 31) dX9_beggar_29 rfl co_X9_83 ?_
        refine P_iret dX9_beggar_31 ?_
        first
          | (refine RO.of (?_ : oBeg (aR T) k c s = (-1000000001, aR T)) hI; unfold oBeg; rw [if_pos h6]; done)
          | (refine RO.of (?_ : oBeg (aR T) k c s = (-1000000001, aR T)) hI; unfold oBeg; rw [if_neg h6, if_pos h16]; done)
          | (refine RO.of (?_ : oBeg (aR T) k c s = (-1000000001, aR T)) hI; unfold oBeg; rw [if_neg h6, if_neg h16, if_pos h26])
theorem r_told {G : GX} {S : Shp} {I T : Mem} {d tn bn : Nat} {tx : Nat → Tx} (hT : KT T tn bn tx) (hsh : SHP S) (hI : RI T I) (b y : Int32) (hd : 12 ≤ d) : PM G yX9_told cX9_told 3 (some .int) d 0 0 [.ref 55, .int b, .int y] S I (RO S I T (vTold (aR T) b y)) := by
  obtain ⟨n, hn, hw, eR, hz, hr, hrd⟩ := hT.n hI
  refine PM.of (ls := [some (.ref 55), some (.int b), some (.int y)]) (by decide) rfl (Nat.le_of_ble_eq_true rfl) rfl ?_
  show PW G RX9 "told" _ _ _ _ _ _ _ _ _ _ _ _
  by_cases hb : wi b 0 (nI n - 1) = 0
  · rw [show vTold (aR T) b y = -1000000001 by unfold vTold; rw [hw.1, if_pos hb]]
    refine P_aload0 (pc' := 1) dX9_told_0 rfl ?_
    refine P_iload1 (pc' := 2) dX9_told_1 rfl ?_
    refine P_callV1 (pc' := 5) dX9_told_2 rfl lk_X9_93 (l_55 hsh) (t_55 hsh) (c_X9_isBeggar (d := 1) b hsh hz (by omega)) (by omega) (Nat.le_of_ble_eq_true rfl) (fun r S' I' hq => ?_)
    obtain ⟨rfl, rfl, rfl⟩ := hq
    refine P_if_eq (tgt := 18) (pc' := 8) dX9_told_5 rfl rfl (fun h5 => ?_) (fun h5 => ?_)
    · refine P_ldc (pc' := 20) dX9_told_18 rfl co_X9_83 ?_
      refine P_iret dX9_told_20 ?_
      exact RO.id hI
    · exact absurd hb h5
  obtain ⟨j, hj, rfl⟩ := wi_n (by omega) hb
  have e : vTold (aR T) (nI j) y = if y = 0 then aR T (16 + 5 * j) else if y = 1 then aR T (17 + 5 * j) else if y = 2 then aR T (18 + 5 * j) else if y = 3 then aR T (19 + 5 * j) else if y = 4 then aR T (20 + 5 * j) else if y = 5 then aAg (aR T) j j 0 else if y = 6 then kWorth (aR T (16 + 5 * j)) (aR T (18 + 5 * j)) else -1000000001 := by unfold vTold; rw [hw.1, if_neg hb, nI_clamp (by omega)]
  by_cases hy : wi y 0 6 = 0
  · have e0 : ∀ i : Nat, i ≤ 6 → ¬ y = nI i := fun i hi z => by
      rw [z] at hy
      exact absurd (wi_e (n := 7) (by decide) hy) (by omega)
    rw [e, if_neg (show ¬ y = 0 from e0 0 (by decide)), if_neg (show ¬ y = 1 from e0 1 (by decide)), if_neg (show ¬ y = 2 from e0 2 (by decide)), if_neg (show ¬ y = 3 from e0 3 (by decide)), if_neg (show ¬ y = 4 from e0 4 (by decide)), if_neg (show ¬ y = 5 from e0 5 (by decide)), if_neg (show ¬ y = 6 from e0 6 (by decide))]
    refine P_aload0 (pc' := 1) dX9_told_0 rfl ?_
    refine P_iload1 (pc' := 2) dX9_told_1 rfl ?_
    refine P_callV1 (pc' := 5) dX9_told_2 rfl lk_X9_93 (l_55 hsh) (t_55 hsh) (c_X9_isBeggar (d := 1) _ hsh hz (by omega)) (by omega) (Nat.le_of_ble_eq_true rfl) (fun r S' I' hq => ?_)
    obtain ⟨rfl, rfl, rfl⟩ := hq
    refine P_if_eq (tgt := 18) (pc' := 8) dX9_told_5 rfl rfl (fun h5 => ?_) (fun h5 => ?_)
    · exact absurd h5 hb
    · refine P_iload2 (pc' := 9) dX9_told_8 rfl ?_
      refine P_iconst (pc' := 10) dX9_told_9 rfl (v := 0) rfl ?_
      refine P_bipush (pc' := 12) dX9_told_10 rfl (v := 6) rfl ?_
      refine P_callS3 (pc' := 15) dX9_told_12 rfl lk_X9_75 (c_X9_in (d := 0) y 0 6) (by omega) (Nat.le_of_ble_eq_true rfl) (fun r S' I' hq => ?_)
      obtain ⟨rfl, rfl, rfl⟩ := hq
      refine P_if_ne (tgt := 21) (pc' := 18) dX9_told_15 rfl rfl (fun h15 => ?_) (fun h15 => ?_)
      · exact absurd hy h15
      · refine P_ldc (pc' := 20) dX9_told_18 rfl co_X9_83 ?_
        refine P_iret dX9_told_20 ?_
        exact RO.id hI
  obtain ⟨i, hi, rfl⟩ := wi_b (m := 6) (by decide) hy
  obtain ⟨k1, -, -⟩ := hw.2.2.2.2 j (by omega)
  by_cases h5 : i < 5
  · have ev : vTold (aR T) (nI j) (nI i) = I 56 (16 + 5 * j + i) := by
      rw [e, hI.r (by omega)]
      have key : i = 0 ∨ i = 1 ∨ i = 2 ∨ i = 3 ∨ i = 4 := by omega
      rcases key with rfl | rfl | rfl | rfl | rfl
      · rfl
      · rw [if_neg (by decide), if_pos (by decide), show 17 + 5 * j = 16 + 5 * j + 1 by omega]
      · rw [if_neg (by decide), if_neg (by decide), if_pos (by decide), show 18 + 5 * j = 16 + 5 * j + 2 by omega]
      · rw [if_neg (by decide), if_neg (by decide), if_neg (by decide), if_pos (by decide), show 19 + 5 * j = 16 + 5 * j + 3 by omega]
      · rw [if_neg (by decide), if_neg (by decide), if_neg (by decide), if_neg (by decide), if_pos (by decide), show 20 + 5 * j = 16 + 5 * j + 4 by omega]
    rw [ev]
    refine P_aload0 (pc' := 1) dX9_told_0 rfl ?_
    refine P_iload1 (pc' := 2) dX9_told_1 rfl ?_
    refine P_callV1 (pc' := 5) dX9_told_2 rfl lk_X9_93 (l_55 hsh) (t_55 hsh) (c_X9_isBeggar (d := 1) _ hsh hz (by omega)) (by omega) (Nat.le_of_ble_eq_true rfl) (fun r S' I' hq => ?_)
    obtain ⟨rfl, rfl, rfl⟩ := hq
    refine P_if_eq (tgt := 18) (pc' := 8) dX9_told_5 rfl rfl (fun h5 => ?_) (fun h5 => ?_)
    · exact absurd h5 hb
    · refine P_iload2 (pc' := 9) dX9_told_8 rfl ?_
      refine P_iconst (pc' := 10) dX9_told_9 rfl (v := 0) rfl ?_
      refine P_bipush (pc' := 12) dX9_told_10 rfl (v := 6) rfl ?_
      refine P_callS3 (pc' := 15) dX9_told_12 rfl lk_X9_75 (c_X9_in (d := 0) _ 0 6) (by omega) (Nat.le_of_ble_eq_true rfl) (fun r S' I' hq => ?_)
      obtain ⟨rfl, rfl, rfl⟩ := hq
      refine P_if_ne (tgt := 21) (pc' := 18) dX9_told_15 rfl rfl (fun h15 => ?_) (fun h15 => ?_)
      · refine P_iload2 (pc' := 22) dX9_told_21 rfl ?_
        refine P_iconst (pc' := 23) dX9_told_22 rfl (v := 5) rfl ?_
        refine P_icmp_ge (tgt := 35) (pc' := 26) dX9_told_23 rfl rfl (fun h23 => ?_) (fun h23 => ?_)
        · exact absurd h23 (nI_ge (b := 5) (by omega) (by decide))
        · refine P_aload0 (pc' := 27) dX9_told_26 rfl ?_
          refine P_iload1 (pc' := 28) dX9_told_27 rfl ?_
          refine P_iload2 (pc' := 29) dX9_told_28 rfl ?_
          refine P_callV2 (pc' := 32) dX9_told_29 rfl lk_X9_89 (l_55 hsh) (t_55 hsh) (c_X9_of (d := 0) (k := i) hsh (by omega) (by omega)) (by omega) (Nat.le_of_ble_eq_true rfl) (fun r S' I' hq => ?_)
          obtain ⟨rfl, rfl, rfl⟩ := hq
          refine P_goto (tgt := 62) dX9_told_32 rfl ?_
          refine P_iret dX9_told_62 ?_
          exact RO.id hI
      · exact absurd h15 hy
  · have key : i = 5 ∨ i = 6 := by omega
    rcases key with rfl | rfl
    · rw [show vTold (aR T) (nI j) (nI 5) = aAg (aR T) j j 0 from e]
      refine P_aload0 (pc' := 1) dX9_told_0 rfl ?_
      refine P_iload1 (pc' := 2) dX9_told_1 rfl ?_
      refine P_callV1 (pc' := 5) dX9_told_2 rfl lk_X9_93 (l_55 hsh) (t_55 hsh) (c_X9_isBeggar (d := 1) _ hsh hz (by omega)) (by omega) (Nat.le_of_ble_eq_true rfl) (fun r S' I' hq => ?_)
      obtain ⟨rfl, rfl, rfl⟩ := hq
      refine P_if_eq (tgt := 18) (pc' := 8) dX9_told_5 rfl rfl (fun h5 => ?_) (fun h5 => ?_)
      · exact absurd h5 hb
      · refine P_iload2 (pc' := 9) dX9_told_8 rfl ?_
        refine P_iconst (pc' := 10) dX9_told_9 rfl (v := 0) rfl ?_
        refine P_bipush (pc' := 12) dX9_told_10 rfl (v := 6) rfl ?_
        refine P_callS3 (pc' := 15) dX9_told_12 rfl lk_X9_75 (c_X9_in (d := 0) _ 0 6) (by omega) (Nat.le_of_ble_eq_true rfl) (fun r S' I' hq => ?_)
        obtain ⟨rfl, rfl, rfl⟩ := hq
        refine P_if_ne (tgt := 21) (pc' := 18) dX9_told_15 rfl rfl (fun h15 => ?_) (fun h15 => ?_)
        · refine P_iload2 (pc' := 22) dX9_told_21 rfl ?_
          refine P_iconst (pc' := 23) dX9_told_22 rfl (v := 5) rfl ?_
          refine P_icmp_ge (tgt := 35) (pc' := 26) dX9_told_23 rfl rfl (fun h23 => ?_) (fun h23 => ?_)
          · refine P_iload2 (pc' := 36) dX9_told_35 rfl ?_
            refine P_bipush (pc' := 38) dX9_told_36 rfl (v := 6) rfl ?_
            refine P_icmp_ne (tgt := 49) (pc' := 41) dX9_told_38 rfl rfl (fun h38 => ?_) (fun h38 => ?_)
            · refine P_aload0 (pc' := 50) dX9_told_49 rfl ?_
              refine P_iload1 (pc' := 51) dX9_told_50 rfl ?_
              refine P_callV1 (pc' := 54) dX9_told_51 rfl lk_X9_101 (l_55 hsh) (t_55 hsh) (c_X9_isAgainst (d := 2) hsh (by rw [eR]; exact hw) hj (by omega)) (by omega) (Nat.le_of_ble_eq_true rfl) (fun r S' I' hq => ?_)
              obtain ⟨rfl, rfl, rfl⟩ := hq
              rw [eR]
              refine P_if_eq (tgt := 61) (pc' := 57) dX9_told_54 rfl rfl (fun h54 => ?_) (fun h54 => ?_)
              · refine P_iconst (pc' := 62) dX9_told_61 rfl (v := 0) rfl ?_
                refine P_iret dX9_told_62 ?_
                first
                  | (rw [show aAg (aR T) j j 0 = 0 from h54]; exact RO.id hI)
                  | (rw [show aAg (aR T) j j 0 = 1 from (aAg_01 _ _ _ _).resolve_left h54]; exact RO.id hI)
              · refine P_iconst (pc' := 58) dX9_told_57 rfl (v := 1) rfl ?_
                refine P_goto (tgt := 62) dX9_told_58 rfl ?_
                refine P_iret dX9_told_62 ?_
                first
                  | (rw [show aAg (aR T) j j 0 = 0 from h54]; exact RO.id hI)
                  | (rw [show aAg (aR T) j j 0 = 1 from (aAg_01 _ _ _ _).resolve_left h54]; exact RO.id hI)
            · exact absurd h38 (by decide)
          · exact absurd (by decide) h23
        · exact absurd h15 hy
    · rw [show vTold (aR T) (nI j) (nI 6) = kWorth (aR T (16 + 5 * j)) (aR T (18 + 5 * j)) from e]
      refine P_aload0 (pc' := 1) dX9_told_0 rfl ?_
      refine P_iload1 (pc' := 2) dX9_told_1 rfl ?_
      refine P_callV1 (pc' := 5) dX9_told_2 rfl lk_X9_93 (l_55 hsh) (t_55 hsh) (c_X9_isBeggar (d := 1) _ hsh hz (by omega)) (by omega) (Nat.le_of_ble_eq_true rfl) (fun r S' I' hq => ?_)
      obtain ⟨rfl, rfl, rfl⟩ := hq
      refine P_if_eq (tgt := 18) (pc' := 8) dX9_told_5 rfl rfl (fun h5 => ?_) (fun h5 => ?_)
      · exact absurd h5 hb
      · refine P_iload2 (pc' := 9) dX9_told_8 rfl ?_
        refine P_iconst (pc' := 10) dX9_told_9 rfl (v := 0) rfl ?_
        refine P_bipush (pc' := 12) dX9_told_10 rfl (v := 6) rfl ?_
        refine P_callS3 (pc' := 15) dX9_told_12 rfl lk_X9_75 (c_X9_in (d := 0) _ 0 6) (by omega) (Nat.le_of_ble_eq_true rfl) (fun r S' I' hq => ?_)
        obtain ⟨rfl, rfl, rfl⟩ := hq
        refine P_if_ne (tgt := 21) (pc' := 18) dX9_told_15 rfl rfl (fun h15 => ?_) (fun h15 => ?_)
        · refine P_iload2 (pc' := 22) dX9_told_21 rfl ?_
          refine P_iconst (pc' := 23) dX9_told_22 rfl (v := 5) rfl ?_
          refine P_icmp_ge (tgt := 35) (pc' := 26) dX9_told_23 rfl rfl (fun h23 => ?_) (fun h23 => ?_)
          · refine P_iload2 (pc' := 36) dX9_told_35 rfl ?_
            refine P_bipush (pc' := 38) dX9_told_36 rfl (v := 6) rfl ?_
            refine P_icmp_ne (tgt := 49) (pc' := 41) dX9_told_38 rfl rfl (fun h38 => ?_) (fun h38 => ?_)
            · exact absurd rfl h38
            · refine P_aload0 (pc' := 42) dX9_told_41 rfl ?_
              refine P_iload1 (pc' := 43) dX9_told_42 rfl ?_
              refine P_callV1 (pc' := 46) dX9_told_43 rfl lk_X9_97 (l_55 hsh) (t_55 hsh) (c_X9_worthOf (d := 2) hsh (by omega) (by rw [hI.r (by omega)]; exact k1) (by omega)) (by omega) (Nat.le_of_ble_eq_true rfl) (fun r S' I' hq => ?_)
              obtain ⟨rfl, rfl, rfl⟩ := hq
              refine P_goto (tgt := 62) dX9_told_46 rfl ?_
              refine P_iret dX9_told_62 ?_
              rw [hI.r (by omega), hI.r (by omega)]
              exact RO.id hI
          · exact absurd (by decide) h23
        · exact absurd h15 hy
theorem r_given {G : GX} {S : Shp} {I T : Mem} {d tn bn : Nat} {tx : Nat → Tx} (hT : KT T tn bn tx) (hsh : SHP S) (hI : RI T I) (b c m g : Int32) (hd : 12 ≤ d) : PM G yX9_given cX9_given 5 (some .int) d 0 0 [.ref 55, .int b, .int c, .int m, .int g] S I (RO S I T (vGiv (alX tn tx) (aR T) b c m g)) := by
  obtain ⟨n, hn, hw, eR, hz, hr, hrd⟩ := hT.n hI
  refine PM.of (ls := [some (.ref 55), some (.int b), some (.int c), some (.int m), some (.int g)]) (by decide) rfl (Nat.le_of_ble_eq_true rfl) rfl ?_
  show PW G RX9 "given" _ _ _ _ _ _ _ _ _ _ _ _
  have ev : vGiv (alX tn tx) (aR T) b c m g = if wi b 0 (nI n - 1) = 0 then -1000000001 else if wi c 1 9 = 0 then -1000000001 else if wi m 0 9 = 0 then -1000000001 else if wi g 0 9 = 0 then -1000000001 else aGift (alX tn tx) (aR T) b.toNatClampNeg c.toNatClampNeg m g.toNatClampNeg := by unfold vGiv; rw [hw.1]
  rw [ev]
  refine P_aload0 (pc' := 1) dX9_given_0 rfl ?_
  refine P_iload1 (pc' := 2) dX9_given_1 rfl ?_
  refine P_callV1 (pc' := 5) dX9_given_2 rfl lk_X9_93 (l_55 hsh) (t_55 hsh) (c_X9_isBeggar (d := 1) b hsh hz (by omega)) (by omega) (Nat.le_of_ble_eq_true rfl) (fun r S' I' hq => ?_)
  obtain ⟨rfl, rfl, rfl⟩ := hq
  refine P_if_eq (tgt := 51) (pc' := 8) dX9_given_5 rfl rfl (fun h5 => ?_) (fun h5 => ?_)
  · refine P_ldc (pc' := 53) dX9_given_51 rfl co_X9_83 ?_
    refine P_iret dX9_given_53 ?_
    first
      | (rw [if_pos h5]; exact RO.id hI)
      | (rw [if_neg h5, if_pos h15]; exact RO.id hI)
      | (rw [if_neg h5, if_neg h15, if_pos h25]; exact RO.id hI)
      | (rw [if_neg h5, if_neg h15, if_neg h25, if_pos h36]; exact RO.id hI)
      | (rw [if_neg h5, if_neg h15, if_neg h25, if_neg h36, nI_clamp (by omega), nI_clamp (by omega), nI_clamp (by omega)]
         rw [eR] at hP ⊢
         exact RO.pi hI hP)
  · refine P_iload2 (pc' := 9) dX9_given_8 rfl ?_
    refine P_iconst (pc' := 10) dX9_given_9 rfl (v := 1) rfl ?_
    refine P_bipush (pc' := 12) dX9_given_10 rfl (v := 9) rfl ?_
    refine P_callS3 (pc' := 15) dX9_given_12 rfl lk_X9_75 (c_X9_in (d := 0) c 1 9) (by omega) (Nat.le_of_ble_eq_true rfl) (fun r S' I' hq => ?_)
    obtain ⟨rfl, rfl, rfl⟩ := hq
    refine P_if_eq (tgt := 51) (pc' := 18) dX9_given_15 rfl rfl (fun h15 => ?_) (fun h15 => ?_)
    · refine P_ldc (pc' := 53) dX9_given_51 rfl co_X9_83 ?_
      refine P_iret dX9_given_53 ?_
      first
        | (rw [if_pos h5]; exact RO.id hI)
        | (rw [if_neg h5, if_pos h15]; exact RO.id hI)
        | (rw [if_neg h5, if_neg h15, if_pos h25]; exact RO.id hI)
        | (rw [if_neg h5, if_neg h15, if_neg h25, if_pos h36]; exact RO.id hI)
        | (rw [if_neg h5, if_neg h15, if_neg h25, if_neg h36, nI_clamp (by omega), nI_clamp (by omega), nI_clamp (by omega)]
           rw [eR] at hP ⊢
           exact RO.pi hI hP)
    · refine P_iload3 (pc' := 19) dX9_given_18 rfl ?_
      refine P_iconst (pc' := 20) dX9_given_19 rfl (v := 0) rfl ?_
      refine P_bipush (pc' := 22) dX9_given_20 rfl (v := 9) rfl ?_
      refine P_callS3 (pc' := 25) dX9_given_22 rfl lk_X9_75 (c_X9_in (d := 0) m 0 9) (by omega) (Nat.le_of_ble_eq_true rfl) (fun r S' I' hq => ?_)
      obtain ⟨rfl, rfl, rfl⟩ := hq
      refine P_if_eq (tgt := 51) (pc' := 28) dX9_given_25 rfl rfl (fun h25 => ?_) (fun h25 => ?_)
      · refine P_ldc (pc' := 53) dX9_given_51 rfl co_X9_83 ?_
        refine P_iret dX9_given_53 ?_
        first
          | (rw [if_pos h5]; exact RO.id hI)
          | (rw [if_neg h5, if_pos h15]; exact RO.id hI)
          | (rw [if_neg h5, if_neg h15, if_pos h25]; exact RO.id hI)
          | (rw [if_neg h5, if_neg h15, if_neg h25, if_pos h36]; exact RO.id hI)
          | (rw [if_neg h5, if_neg h15, if_neg h25, if_neg h36, nI_clamp (by omega), nI_clamp (by omega), nI_clamp (by omega)]
             rw [eR] at hP ⊢
             exact RO.pi hI hP)
      · refine P_iload4 (pc' := 30) dX9_given_28 rfl ?_
        refine P_iconst (pc' := 31) dX9_given_30 rfl (v := 0) rfl ?_
        refine P_bipush (pc' := 33) dX9_given_31 rfl (v := 9) rfl ?_
        refine P_callS3 (pc' := 36) dX9_given_33 rfl lk_X9_75 (c_X9_in (d := 0) g 0 9) (by omega) (Nat.le_of_ble_eq_true rfl) (fun r S' I' hq => ?_)
        obtain ⟨rfl, rfl, rfl⟩ := hq
        refine P_if_eq (tgt := 51) (pc' := 39) dX9_given_36 rfl rfl (fun h36 => ?_) (fun h36 => ?_)
        · refine P_ldc (pc' := 53) dX9_given_51 rfl co_X9_83 ?_
          refine P_iret dX9_given_53 ?_
          first
            | (rw [if_pos h5]; exact RO.id hI)
            | (rw [if_neg h5, if_pos h15]; exact RO.id hI)
            | (rw [if_neg h5, if_neg h15, if_pos h25]; exact RO.id hI)
            | (rw [if_neg h5, if_neg h15, if_neg h25, if_pos h36]; exact RO.id hI)
            | (rw [if_neg h5, if_neg h15, if_neg h25, if_neg h36, nI_clamp (by omega), nI_clamp (by omega), nI_clamp (by omega)]
               rw [eR] at hP ⊢
               exact RO.pi hI hP)
        · obtain ⟨j, hj, rfl⟩ := wi_n (by omega) h5
          obtain ⟨c', c1, c9, rfl⟩ := wi_b1 (m := 9) (by decide) h15
          obtain ⟨g', g9, rfl⟩ := wi_b (m := 9) (by decide) h36
          refine P_aload0 (pc' := 40) dX9_given_39 rfl ?_
          refine P_iload1 (pc' := 41) dX9_given_40 rfl ?_
          refine P_iload2 (pc' := 42) dX9_given_41 rfl ?_
          refine P_iload3 (pc' := 43) dX9_given_42 rfl ?_
          refine P_iload4 (pc' := 45) dX9_given_43 rfl ?_
          refine P_callV4 (pc' := 48) dX9_given_45 rfl lk_X9_113 (l_55 hsh) (t_55 hsh) (c_X9_givenTo (d := 3) (n := n) hsh hr hrd (by rw [eR]; exact hw) (by omega) c1 c9 g9 (by omega)) (by omega) (Nat.le_of_ble_eq_true rfl) (fun r S' I' hq => ?_)
          obtain ⟨rfl, rfl, hP⟩ := hq
          refine P_goto (tgt := 53) dX9_given_48 rfl ?_
          refine P_iret dX9_given_53 ?_
          first
            | (rw [if_pos h5]; exact RO.id hI)
            | (rw [if_neg h5, if_pos h15]; exact RO.id hI)
            | (rw [if_neg h5, if_neg h15, if_pos h25]; exact RO.id hI)
            | (rw [if_neg h5, if_neg h15, if_neg h25, if_pos h36]; exact RO.id hI)
            | (rw [if_neg h5, if_neg h15, if_neg h25, if_neg h36, nI_clamp (by omega), nI_clamp (by omega), nI_clamp (by omega)]
               rw [eR] at hP ⊢
               exact RO.pi hI hP)
theorem r_as {G : GX} {S : Shp} {I T : Mem} {d tn bn : Nat} {tx : Nat → Tx} (hT : KT T tn bn tx) (hsh : SHP S) (hI : RI T I) (b k : Int32) (hd : 12 ≤ d) : PM G yX9_as cX9_as 3 (some .int) d 0 0 [.ref 55, .int b, .int k] S I (RO S I T (vAs (aR T) b k)) := by
  obtain ⟨n, hn, hw, eR, hz, hr, hrd⟩ := hT.n hI
  refine PM.of (ls := [some (.ref 55), some (.int b), some (.int k)]) (by decide) rfl (Nat.le_of_ble_eq_true rfl) rfl ?_
  show PW G RX9 "as" _ _ _ _ _ _ _ _ _ _ _ _
  have ev : vAs (aR T) b k = if wi b 0 (nI n - 1) = 0 then -1000000001 else if wi k 0 5 = 0 then -1000000001 else if ofF 6 (aR T (16 + 5 * b.toNatClampNeg)) k = 0 then -1000000012 else aR T (18 + 5 * b.toNatClampNeg) := by unfold vAs; rw [hw.1]
  rw [ev]
  refine P_aload0 (pc' := 1) dX9_as_0 rfl ?_
  refine P_iload1 (pc' := 2) dX9_as_1 rfl ?_
  refine P_callV1 (pc' := 5) dX9_as_2 rfl lk_X9_93 (l_55 hsh) (t_55 hsh) (c_X9_isBeggar (d := 1) b hsh hz (by omega)) (by omega) (Nat.le_of_ble_eq_true rfl) (fun r S' I' hq => ?_)
  obtain ⟨rfl, rfl, rfl⟩ := hq
  refine P_if_eq (tgt := 17) (pc' := 8) dX9_as_5 rfl rfl (fun h5 => ?_) (fun h5 => ?_)
  · refine P_ldc (pc' := 19) dX9_as_17 rfl co_X9_83 ?_
    refine P_iret dX9_as_19 ?_
    first
      | (rw [if_pos h5]; exact RO.id hI)
      | (rw [if_neg h5, if_pos h14]; exact RO.id hI)
  · refine P_iload2 (pc' := 9) dX9_as_8 rfl ?_
    refine P_iconst (pc' := 10) dX9_as_9 rfl (v := 0) rfl ?_
    refine P_iconst (pc' := 11) dX9_as_10 rfl (v := 5) rfl ?_
    refine P_callS3 (pc' := 14) dX9_as_11 rfl lk_X9_75 (c_X9_in (d := 0) k 0 5) (by omega) (Nat.le_of_ble_eq_true rfl) (fun r S' I' hq => ?_)
    obtain ⟨rfl, rfl, rfl⟩ := hq
    refine P_if_ne (tgt := 20) (pc' := 17) dX9_as_14 rfl rfl (fun h14 => ?_) (fun h14 => ?_)
    · obtain ⟨j, hj, rfl⟩ := wi_n (by omega) h5
      obtain ⟨k1, -, -⟩ := hw.2.2.2.2 j (by omega)
      rw [nI_clamp (by omega)]
      refine P_aload0 (pc' := 21) dX9_as_20 rfl ?_
      refine P_iload1 (pc' := 22) dX9_as_21 rfl ?_
      refine P_iconst (pc' := 23) dX9_as_22 rfl (v := 0) rfl ?_
      refine P_callV2 (pc' := 26) dX9_as_23 rfl lk_X9_89 (l_55 hsh) (t_55 hsh) (c_X9_of (d := 0) (k := 0) hsh (by omega) (by omega)) (by omega) (Nat.le_of_ble_eq_true rfl) (fun r S' I' hq => ?_)
      obtain ⟨rfl, rfl, rfl⟩ := hq
      refine P_as (y := aR T (16 + 5 * j)) (hI.r (by omega)) ?_
      refine P_iload2 (pc' := 27) dX9_as_26 rfl ?_
      refine P_callS2 (pc' := 30) dX9_as_27 rfl lk_X9_117 (c_X9_isUnder (d := 0) _ _) (by omega) (Nat.le_of_ble_eq_true rfl) (fun r S' I' hq => ?_)
      obtain ⟨rfl, rfl, rfl⟩ := hq
      refine P_as (unF_of k1 (wi_k h14)) ?_
      refine P_if_eq (tgt := 42) (pc' := 33) dX9_as_30 rfl rfl (fun h30 => ?_) (fun h30 => ?_)
      · refine P_ldc (pc' := 44) dX9_as_42 rfl co_X9_121 ?_
        refine P_iret dX9_as_44 ?_
        first
          | (rw [if_neg h5, if_neg h14, if_pos h30]; exact RO.id hI)
          | (rw [if_neg h5, if_neg h14, if_neg h30]; exact RO.id hI)
      · refine P_aload0 (pc' := 34) dX9_as_33 rfl ?_
        refine P_iload1 (pc' := 35) dX9_as_34 rfl ?_
        refine P_iconst (pc' := 36) dX9_as_35 rfl (v := 2) rfl ?_
        refine P_callV2 (pc' := 39) dX9_as_36 rfl lk_X9_89 (l_55 hsh) (t_55 hsh) (c_X9_of (d := 0) (k := 2) hsh (by omega) (by omega)) (by omega) (Nat.le_of_ble_eq_true rfl) (fun r S' I' hq => ?_)
        obtain ⟨rfl, rfl, rfl⟩ := hq
        refine P_as (y := aR T (18 + 5 * j)) ((hI.r (by omega)).trans (by rw [show 16 + 5 * j + 2 = 18 + 5 * j by omega])) ?_
        refine P_goto (tgt := 44) dX9_as_39 rfl ?_
        refine P_iret dX9_as_44 ?_
        first
          | (rw [if_neg h5, if_neg h14, if_pos h30]; exact RO.id hI)
          | (rw [if_neg h5, if_neg h14, if_neg h30]; exact RO.id hI)
    · refine P_ldc (pc' := 19) dX9_as_17 rfl co_X9_83 ?_
      refine P_iret dX9_as_19 ?_
      first
        | (rw [if_pos h5]; exact RO.id hI)
        | (rw [if_neg h5, if_pos h14]; exact RO.id hI)
theorem ix_5 (b : Nat) : (16 : Int32) + 5 * nI b = nI (16 + 5 * b) := by
  have e : (5 : Int32) * nI b = nI (5 * b) := pk_mul 5 b
  rw [e]
  exact nI_add 16 (5 * b)
theorem r_turns {G : GX} {S : Shp} {I T : Mem} {d tn bn : Nat} {tx : Nat → Tx} (hT : KT T tn bn tx) (hsh : SHP S) (hI : RI T I) (b k : Int32) (hd : 12 ≤ d) : PM G yX9_turns cX9_turns 3 (some .int) d 0 0 [.ref 55, .int b, .int k] S I (RO S I (nw T (oTur (aR T) b k).2) (oTur (aR T) b k).1) := by
  obtain ⟨n, hn, hw, eR, hz, hr, hrd⟩ := hT.n hI
  refine PM.of (ls := [some (.ref 55), some (.int b), some (.int k)]) (by decide) rfl (Nat.le_of_ble_eq_true rfl) rfl ?_
  show PW G RX9 "turns" _ _ _ _ _ _ _ _ _ _ _ _
  refine P_aload0 (pc' := 1) dX9_turns_0 rfl ?_
  refine P_iload1 (pc' := 2) dX9_turns_1 rfl ?_
  refine P_callV1 (pc' := 5) dX9_turns_2 rfl lk_X9_93 (l_55 hsh) (t_55 hsh) (c_X9_isBeggar (d := 1) b hsh hz (by omega)) (by omega) (Nat.le_of_ble_eq_true rfl) (fun r S' I' hq => ?_)
  obtain ⟨rfl, rfl, rfl⟩ := hq
  refine P_if_eq (tgt := 31) (pc' := 8) dX9_turns_5 rfl rfl (fun h5 => ?_) (fun h5 => ?_)
  · refine P_ldc (pc' := 33) dX9_turns_31 rfl co_X9_83 ?_
    refine P_iret dX9_turns_33 ?_
    first
      | (refine RO.of (?_ : oTur (aR T) b k = (-1000000001, aR T)) hI; unfold oTur; rw [hw.1, if_pos h5]; done)
      | (refine RO.of (?_ : oTur (aR T) b k = (-1000000001, aR T)) hI; unfold oTur; rw [hw.1, if_neg h5, if_pos h14]; done)
      | (refine RO.to (?_ : oTur (aR T) (nI j) k = (I 56 (16 + 5 * j), upd (aR I) (16 + 5 * j) k)) hI (PsR.put (by omega)); unfold oTur; rw [hw.1, if_neg h5, if_neg h14, nI_clamp (by omega), eR, hI.r (by omega)])
  · refine P_iload2 (pc' := 9) dX9_turns_8 rfl ?_
    refine P_iconst (pc' := 10) dX9_turns_9 rfl (v := 0) rfl ?_
    refine P_iconst (pc' := 11) dX9_turns_10 rfl (v := 5) rfl ?_
    refine P_callS3 (pc' := 14) dX9_turns_11 rfl lk_X9_75 (c_X9_in (d := 0) k 0 5) (by omega) (Nat.le_of_ble_eq_true rfl) (fun r S' I' hq => ?_)
    obtain ⟨rfl, rfl, rfl⟩ := hq
    refine P_if_eq (tgt := 31) (pc' := 17) dX9_turns_14 rfl rfl (fun h14 => ?_) (fun h14 => ?_)
    · refine P_ldc (pc' := 33) dX9_turns_31 rfl co_X9_83 ?_
      refine P_iret dX9_turns_33 ?_
      first
        | (refine RO.of (?_ : oTur (aR T) b k = (-1000000001, aR T)) hI; unfold oTur; rw [hw.1, if_pos h5]; done)
        | (refine RO.of (?_ : oTur (aR T) b k = (-1000000001, aR T)) hI; unfold oTur; rw [hw.1, if_neg h5, if_pos h14]; done)
        | (refine RO.to (?_ : oTur (aR T) (nI j) k = (I 56 (16 + 5 * j), upd (aR I) (16 + 5 * j) k)) hI (PsR.put (by omega)); unfold oTur; rw [hw.1, if_neg h5, if_neg h14, nI_clamp (by omega), eR, hI.r (by omega)])
    · obtain ⟨j, hj, rfl⟩ := wi_n (by omega) h5
      refine P_aload0 (pc' := 18) dX9_turns_17 rfl ?_
      refine P_bipush (pc' := 20) dX9_turns_18 rfl (v := 16) rfl ?_
      refine P_iconst (pc' := 21) dX9_turns_20 rfl (v := 5) rfl ?_
      refine P_iload1 (pc' := 22) dX9_turns_21 rfl ?_
      refine P_imul (pc' := 23) dX9_turns_22 rfl ?_
      refine P_iadd (pc' := 24) dX9_turns_23 rfl ?_
      refine P_as (ix_5 j) ?_
      refine P_iload2 (pc' := 25) dX9_turns_24 rfl ?_
      refine P_callV2 (pc' := 28) dX9_turns_25 rfl lk_X9_122 (l_55 hsh) (t_55 hsh) (c_X9_becomes (d := 0) (i := 16 + 5 * j) hsh (by omega)) (by omega) (Nat.le_of_ble_eq_true rfl) (fun r S' I' hq => ?_)
      obtain ⟨rfl, rfl, rfl⟩ := hq
      refine P_goto (tgt := 33) dX9_turns_28 rfl ?_
      refine P_iret dX9_turns_33 ?_
      first
        | (refine RO.of (?_ : oTur (aR T) b k = (-1000000001, aR T)) hI; unfold oTur; rw [hw.1, if_pos h5]; done)
        | (refine RO.of (?_ : oTur (aR T) b k = (-1000000001, aR T)) hI; unfold oTur; rw [hw.1, if_neg h5, if_pos h14]; done)
        | (refine RO.to (?_ : oTur (aR T) (nI j) k = (I 56 (16 + 5 * j), upd (aR I) (16 + 5 * j) k)) hI (PsR.put (by omega)); unfold oTur; rw [hw.1, if_neg h5, if_neg h14, nI_clamp (by omega), eR, hI.r (by omega)])
theorem r_set {G : GX} {S : Shp} {I T : Mem} {d tn bn : Nat} {tx : Nat → Tx} (hT : KT T tn bn tx) (hsh : SHP S) (hI : RI T I) (b y v : Int32) (hd : 12 ≤ d) : PM G yX9_set cX9_set 4 (some .int) d 0 0 [.ref 55, .int b, .int y, .int v] S I (RO S I (nw T (oSet (aR T) b y v).2) (oSet (aR T) b y v).1) := by
  obtain ⟨n, hn, hw, eR, hz, hr, hrd⟩ := hT.n hI
  refine PM.of (ls := [some (.ref 55), some (.int b), some (.int y), some (.int v)]) (by decide) rfl (Nat.le_of_ble_eq_true rfl) rfl ?_
  show PW G RX9 "set" _ _ _ _ _ _ _ _ _ _ _ _
  by_cases hb : wi b 0 (nI n - 1) = 0
  · have eo : oSet (aR T) b y v = (-1000000001, aR T) := by unfold oSet; rw [hw.1, if_pos hb]
    refine P_aload0 (pc' := 1) dX9_set_0 rfl ?_
    refine P_iload1 (pc' := 2) dX9_set_1 rfl ?_
    refine P_callV1 (pc' := 5) dX9_set_2 rfl lk_X9_93 (l_55 hsh) (t_55 hsh) (c_X9_isBeggar (d := 1) b hsh hz (by omega)) (by omega) (Nat.le_of_ble_eq_true rfl) (fun r S' I' hq => ?_)
    obtain ⟨rfl, rfl, rfl⟩ := hq
    refine P_if_eq (tgt := 53) (pc' := 8) dX9_set_5 rfl rfl (fun h5 => ?_) (fun h5 => ?_)
    · refine P_ldc (pc' := 55) dX9_set_53 rfl co_X9_83 ?_
      refine P_iret dX9_set_55 ?_
      exact RO.of eo hI
    · exact absurd hb h5
  obtain ⟨j, hj, rfl⟩ := wi_n (by omega) hb
  have eo : oSet (aR T) (nI j) y v = if y = 1 then (if wi v 0 8 = 0 then (-1000000001, aR T) else (aR T (17 + 5 * j), upd (aR T) (17 + 5 * j) v)) else if y = 2 then (if wi v 0 20 = 0 then (-1000000001, aR T) else (aR T (18 + 5 * j), upd (aR T) (18 + 5 * j) v)) else (-1000000001, aR T) := by unfold oSet; rw [hw.1, if_neg hb, nI_clamp (by omega)]
  by_cases y1 : y = 1
  · subst y1
    rw [if_pos rfl] at eo
    refine P_aload0 (pc' := 1) dX9_set_0 rfl ?_
    refine P_iload1 (pc' := 2) dX9_set_1 rfl ?_
    refine P_callV1 (pc' := 5) dX9_set_2 rfl lk_X9_93 (l_55 hsh) (t_55 hsh) (c_X9_isBeggar (d := 1) _ hsh hz (by omega)) (by omega) (Nat.le_of_ble_eq_true rfl) (fun r S' I' hq => ?_)
    obtain ⟨rfl, rfl, rfl⟩ := hq
    refine P_if_eq (tgt := 53) (pc' := 8) dX9_set_5 rfl rfl (fun h5 => ?_) (fun h5 => ?_)
    · exact absurd h5 hb
    · refine P_iload2 (pc' := 9) dX9_set_8 rfl ?_
      refine P_iconst (pc' := 10) dX9_set_9 rfl (v := 1) rfl ?_
      refine P_iconst (pc' := 11) dX9_set_10 rfl (v := 2) rfl ?_
      refine P_callS3 (pc' := 14) dX9_set_11 rfl lk_X9_75 (c_X9_in (d := 0) 1 1 2) (by omega) (Nat.le_of_ble_eq_true rfl) (fun r S' I' hq => ?_)
      obtain ⟨rfl, rfl, rfl⟩ := hq
      refine P_if_eq (tgt := 53) (pc' := 17) dX9_set_14 rfl rfl (fun h14 => ?_) (fun h14 => ?_)
      · exact absurd h14 (by decide)
      · refine P_iload3 (pc' := 18) dX9_set_17 rfl ?_
        refine P_iconst (pc' := 19) dX9_set_18 rfl (v := 0) rfl ?_
        refine P_iload2 (pc' := 20) dX9_set_19 rfl ?_
        refine P_iconst (pc' := 21) dX9_set_20 rfl (v := 1) rfl ?_
        refine P_icmp_ne (tgt := 29) (pc' := 24) dX9_set_21 rfl rfl (fun h21 => ?_) (fun h21 => ?_)
        · exact absurd rfl h21
        · refine P_bipush (pc' := 26) dX9_set_24 rfl (v := 8) rfl ?_
          refine P_goto (tgt := 31) dX9_set_26 rfl ?_
          refine P_callS3 (pc' := 34) dX9_set_31 rfl lk_X9_75 (c_X9_in (d := 0) v 0 8) (by omega) (Nat.le_of_ble_eq_true rfl) (fun r S' I' hq => ?_)
          obtain ⟨rfl, rfl, rfl⟩ := hq
          refine P_if_eq (tgt := 53) (pc' := 37) dX9_set_34 rfl rfl (fun h34 => ?_) (fun h34 => ?_)
          · refine P_ldc (pc' := 55) dX9_set_53 rfl co_X9_83 ?_
            refine P_iret dX9_set_55 ?_
            first
              | exact RO.of (eo.trans (if_pos h34)) hI
              | exact RO.to (A := upd (aR I) (17 + 5 * j) v) (eo.trans ((if_neg h34).trans (by rw [eR, hI.r (by omega)]))) hI (PsR.put (by omega))
          · refine P_aload0 (pc' := 38) dX9_set_37 rfl ?_
            refine P_bipush (pc' := 40) dX9_set_38 rfl (v := 16) rfl ?_
            refine P_iconst (pc' := 41) dX9_set_40 rfl (v := 5) rfl ?_
            refine P_iload1 (pc' := 42) dX9_set_41 rfl ?_
            refine P_imul (pc' := 43) dX9_set_42 rfl ?_
            refine P_iadd (pc' := 44) dX9_set_43 rfl ?_
            refine P_as (ix_5 j) ?_
            refine P_iload2 (pc' := 45) dX9_set_44 rfl ?_
            refine P_iadd (pc' := 46) dX9_set_45 rfl ?_
            refine P_as (y := nI (17 + 5 * j)) ((nI_1 (16 + 5 * j)).trans (by rw [show 16 + 5 * j + 1 = 17 + 5 * j by omega])) ?_
            refine P_iload3 (pc' := 47) dX9_set_46 rfl ?_
            refine P_callV2 (pc' := 50) dX9_set_47 rfl lk_X9_122 (l_55 hsh) (t_55 hsh) (c_X9_becomes (d := 0) (i := 17 + 5 * j) hsh (by omega)) (by omega) (Nat.le_of_ble_eq_true rfl) (fun r S' I' hq => ?_)
            obtain ⟨rfl, rfl, rfl⟩ := hq
            refine P_goto (tgt := 55) dX9_set_50 rfl ?_
            refine P_iret dX9_set_55 ?_
            first
              | exact RO.of (eo.trans (if_pos h34)) hI
              | exact RO.to (A := upd (aR I) (17 + 5 * j) v) (eo.trans ((if_neg h34).trans (by rw [eR, hI.r (by omega)]))) hI (PsR.put (by omega))
  rw [if_neg y1] at eo
  by_cases y2 : y = 2
  · subst y2
    rw [if_pos rfl] at eo
    refine P_aload0 (pc' := 1) dX9_set_0 rfl ?_
    refine P_iload1 (pc' := 2) dX9_set_1 rfl ?_
    refine P_callV1 (pc' := 5) dX9_set_2 rfl lk_X9_93 (l_55 hsh) (t_55 hsh) (c_X9_isBeggar (d := 1) _ hsh hz (by omega)) (by omega) (Nat.le_of_ble_eq_true rfl) (fun r S' I' hq => ?_)
    obtain ⟨rfl, rfl, rfl⟩ := hq
    refine P_if_eq (tgt := 53) (pc' := 8) dX9_set_5 rfl rfl (fun h5 => ?_) (fun h5 => ?_)
    · exact absurd h5 hb
    · refine P_iload2 (pc' := 9) dX9_set_8 rfl ?_
      refine P_iconst (pc' := 10) dX9_set_9 rfl (v := 1) rfl ?_
      refine P_iconst (pc' := 11) dX9_set_10 rfl (v := 2) rfl ?_
      refine P_callS3 (pc' := 14) dX9_set_11 rfl lk_X9_75 (c_X9_in (d := 0) 2 1 2) (by omega) (Nat.le_of_ble_eq_true rfl) (fun r S' I' hq => ?_)
      obtain ⟨rfl, rfl, rfl⟩ := hq
      refine P_if_eq (tgt := 53) (pc' := 17) dX9_set_14 rfl rfl (fun h14 => ?_) (fun h14 => ?_)
      · exact absurd h14 (by decide)
      · refine P_iload3 (pc' := 18) dX9_set_17 rfl ?_
        refine P_iconst (pc' := 19) dX9_set_18 rfl (v := 0) rfl ?_
        refine P_iload2 (pc' := 20) dX9_set_19 rfl ?_
        refine P_iconst (pc' := 21) dX9_set_20 rfl (v := 1) rfl ?_
        refine P_icmp_ne (tgt := 29) (pc' := 24) dX9_set_21 rfl rfl (fun h21 => ?_) (fun h21 => ?_)
        · refine P_bipush (pc' := 31) dX9_set_29 rfl (v := 20) rfl ?_
          refine P_callS3 (pc' := 34) dX9_set_31 rfl lk_X9_75 (c_X9_in (d := 0) v 0 20) (by omega) (Nat.le_of_ble_eq_true rfl) (fun r S' I' hq => ?_)
          obtain ⟨rfl, rfl, rfl⟩ := hq
          refine P_if_eq (tgt := 53) (pc' := 37) dX9_set_34 rfl rfl (fun h34 => ?_) (fun h34 => ?_)
          · refine P_ldc (pc' := 55) dX9_set_53 rfl co_X9_83 ?_
            refine P_iret dX9_set_55 ?_
            first
              | exact RO.of (eo.trans (if_pos h34)) hI
              | exact RO.to (A := upd (aR I) (18 + 5 * j) v) (eo.trans ((if_neg h34).trans (by rw [eR, hI.r (by omega)]))) hI (PsR.put (by omega))
          · refine P_aload0 (pc' := 38) dX9_set_37 rfl ?_
            refine P_bipush (pc' := 40) dX9_set_38 rfl (v := 16) rfl ?_
            refine P_iconst (pc' := 41) dX9_set_40 rfl (v := 5) rfl ?_
            refine P_iload1 (pc' := 42) dX9_set_41 rfl ?_
            refine P_imul (pc' := 43) dX9_set_42 rfl ?_
            refine P_iadd (pc' := 44) dX9_set_43 rfl ?_
            refine P_as (ix_5 j) ?_
            refine P_iload2 (pc' := 45) dX9_set_44 rfl ?_
            refine P_iadd (pc' := 46) dX9_set_45 rfl ?_
            refine P_as (y := nI (18 + 5 * j)) ((nI_add (16 + 5 * j) 2).trans (by rw [show 16 + 5 * j + 2 = 18 + 5 * j by omega])) ?_
            refine P_iload3 (pc' := 47) dX9_set_46 rfl ?_
            refine P_callV2 (pc' := 50) dX9_set_47 rfl lk_X9_122 (l_55 hsh) (t_55 hsh) (c_X9_becomes (d := 0) (i := 18 + 5 * j) hsh (by omega)) (by omega) (Nat.le_of_ble_eq_true rfl) (fun r S' I' hq => ?_)
            obtain ⟨rfl, rfl, rfl⟩ := hq
            refine P_goto (tgt := 55) dX9_set_50 rfl ?_
            refine P_iret dX9_set_55 ?_
            first
              | exact RO.of (eo.trans (if_pos h34)) hI
              | exact RO.to (A := upd (aR I) (18 + 5 * j) v) (eo.trans ((if_neg h34).trans (by rw [eR, hI.r (by omega)]))) hI (PsR.put (by omega))
        · exact absurd h21 (by decide)
  rw [if_neg y2] at eo
  have y3 : wi y 1 2 = 0 := Classical.byContradiction (fun z => by
    obtain ⟨i, i1, i2, rfl⟩ := wi_b1 (m := 2) (by decide) z
    have key : i = 1 ∨ i = 2 := by omega
    rcases key with rfl | rfl
    · exact y1 rfl
    · exact y2 rfl)
  refine P_aload0 (pc' := 1) dX9_set_0 rfl ?_
  refine P_iload1 (pc' := 2) dX9_set_1 rfl ?_
  refine P_callV1 (pc' := 5) dX9_set_2 rfl lk_X9_93 (l_55 hsh) (t_55 hsh) (c_X9_isBeggar (d := 1) _ hsh hz (by omega)) (by omega) (Nat.le_of_ble_eq_true rfl) (fun r S' I' hq => ?_)
  obtain ⟨rfl, rfl, rfl⟩ := hq
  refine P_if_eq (tgt := 53) (pc' := 8) dX9_set_5 rfl rfl (fun h5 => ?_) (fun h5 => ?_)
  · exact absurd h5 hb
  · refine P_iload2 (pc' := 9) dX9_set_8 rfl ?_
    refine P_iconst (pc' := 10) dX9_set_9 rfl (v := 1) rfl ?_
    refine P_iconst (pc' := 11) dX9_set_10 rfl (v := 2) rfl ?_
    refine P_callS3 (pc' := 14) dX9_set_11 rfl lk_X9_75 (c_X9_in (d := 0) y 1 2) (by omega) (Nat.le_of_ble_eq_true rfl) (fun r S' I' hq => ?_)
    obtain ⟨rfl, rfl, rfl⟩ := hq
    refine P_if_eq (tgt := 53) (pc' := 17) dX9_set_14 rfl rfl (fun h14 => ?_) (fun h14 => ?_)
    · refine P_ldc (pc' := 55) dX9_set_53 rfl co_X9_83 ?_
      refine P_iret dX9_set_55 ?_
      exact RO.of eo hI
    · exact absurd y3 h14
theorem r_rent {G : GX} {S : Shp} {I T : Mem} {d tn bn : Nat} {tx : Nat → Tx} (hT : KT T tn bn tx) (hsh : SHP S) (hI : RI T I) (c v : Int32) (hd : 12 ≤ d) : PM G yX9_rent cX9_rent 3 (some .int) d 0 0 [.ref 55, .int c, .int v] S I (RO S I (nw T (oRent (aR T) c v).2) (oRent (aR T) c v).1) := by
  obtain ⟨n, hn, hw, eR, hz, hr, hrd⟩ := hT.n hI
  refine PM.of (ls := [some (.ref 55), some (.int c), some (.int v)]) (by decide) rfl (Nat.le_of_ble_eq_true rfl) rfl ?_
  show PW G RX9 "rent" _ _ _ _ _ _ _ _ _ _ _ _
  refine P_iload1 (pc' := 1) dX9_rent_0 rfl ?_
  refine P_callS1 (pc' := 4) dX9_rent_1 rfl lk_X9_125 (c_X9_isCorner (d := 1) c (by omega)) (by omega) (Nat.le_of_ble_eq_true rfl) (fun r S' I' hq => ?_)
  obtain ⟨rfl, rfl, rfl⟩ := hq
  refine P_if_eq (tgt := 29) (pc' := 7) dX9_rent_4 rfl rfl (fun h4 => ?_) (fun h4 => ?_)
  · refine P_ldc (pc' := 31) dX9_rent_29 rfl co_X9_83 ?_
    refine P_iret dX9_rent_31 ?_
    first
      | (refine RO.of (?_ : oRent (aR T) c v = (-1000000001, aR T)) hI; unfold oRent; rw [if_pos h4]; done)
      | (refine RO.of (?_ : oRent (aR T) c v = (-1000000001, aR T)) hI; unfold oRent; rw [if_neg h4, if_pos h14]; done)
      | (refine RO.to (?_ : oRent (aR T) (nI j) v = (I 56 (8 + j), upd (aR I) (8 + j) v)) hI (PsR.put (by omega)); unfold oRent; rw [if_neg h4, if_neg h14, nI_clamp (by omega), eR, hI.r (by omega)])
  · refine P_iload2 (pc' := 8) dX9_rent_7 rfl ?_
    refine P_iconst (pc' := 9) dX9_rent_8 rfl (v := 0) rfl ?_
    refine P_bipush (pc' := 11) dX9_rent_9 rfl (v := 9) rfl ?_
    refine P_callS3 (pc' := 14) dX9_rent_11 rfl lk_X9_75 (c_X9_in (d := 0) v 0 9) (by omega) (Nat.le_of_ble_eq_true rfl) (fun r S' I' hq => ?_)
    obtain ⟨rfl, rfl, rfl⟩ := hq
    refine P_if_eq (tgt := 29) (pc' := 17) dX9_rent_14 rfl rfl (fun h14 => ?_) (fun h14 => ?_)
    · refine P_ldc (pc' := 31) dX9_rent_29 rfl co_X9_83 ?_
      refine P_iret dX9_rent_31 ?_
      first
        | (refine RO.of (?_ : oRent (aR T) c v = (-1000000001, aR T)) hI; unfold oRent; rw [if_pos h4]; done)
        | (refine RO.of (?_ : oRent (aR T) c v = (-1000000001, aR T)) hI; unfold oRent; rw [if_neg h4, if_pos h14]; done)
        | (refine RO.to (?_ : oRent (aR T) (nI j) v = (I 56 (8 + j), upd (aR I) (8 + j) v)) hI (PsR.put (by omega)); unfold oRent; rw [if_neg h4, if_neg h14, nI_clamp (by omega), eR, hI.r (by omega)])
    · obtain ⟨j, hj, rfl⟩ := wi_b (m := 7) (by decide) h4
      refine P_aload0 (pc' := 18) dX9_rent_17 rfl ?_
      refine P_bipush (pc' := 20) dX9_rent_18 rfl (v := 8) rfl ?_
      refine P_iload1 (pc' := 21) dX9_rent_20 rfl ?_
      refine P_iadd (pc' := 22) dX9_rent_21 rfl ?_
      refine P_as (nI_add 8 j) ?_
      refine P_iload2 (pc' := 23) dX9_rent_22 rfl ?_
      refine P_callV2 (pc' := 26) dX9_rent_23 rfl lk_X9_122 (l_55 hsh) (t_55 hsh) (c_X9_becomes (d := 0) (i := 8 + j) hsh (by omega)) (by omega) (Nat.le_of_ble_eq_true rfl) (fun r S' I' hq => ?_)
      obtain ⟨rfl, rfl, rfl⟩ := hq
      refine P_goto (tgt := 31) dX9_rent_26 rfl ?_
      refine P_iret dX9_rent_31 ?_
      first
        | (refine RO.of (?_ : oRent (aR T) c v = (-1000000001, aR T)) hI; unfold oRent; rw [if_pos h4]; done)
        | (refine RO.of (?_ : oRent (aR T) c v = (-1000000001, aR T)) hI; unfold oRent; rw [if_neg h4, if_pos h14]; done)
        | (refine RO.to (?_ : oRent (aR T) (nI j) v = (I 56 (8 + j), upd (aR I) (8 + j) v)) hI (PsR.put (by omega)); unfold oRent; rw [if_neg h4, if_neg h14, nI_clamp (by omega), eR, hI.r (by omega)])
theorem r_seed {G : GX} {S : Shp} {I T : Mem} {d tn bn : Nat} {tx : Nat → Tx} (hT : KT T tn bn tx) (hsh : SHP S) (hI : RI T I) (v : Int32) (hd : 12 ≤ d) : PM G yX9_seed cX9_seed 2 (some .int) d 0 0 [.ref 55, .int v] S I (RO S I (nw T (oSeed (aR T) v).2) (oSeed (aR T) v).1) := by
  obtain ⟨n, hn, hw, eR, hz, hr, hrd⟩ := hT.n hI
  refine PM.of (ls := [some (.ref 55), some (.int v)]) (by decide) rfl (Nat.le_of_ble_eq_true rfl) rfl ?_
  show PW G RX9 "seed" _ _ _ _ _ _ _ _ _ _ _ _
  refine P_aload0 (pc' := 1) dX9_seed_0 rfl ?_
  refine P_iconst (pc' := 2) dX9_seed_1 rfl (v := 0) rfl ?_
  refine P_iload1 (pc' := 3) dX9_seed_2 rfl ?_
  refine P_callV2 (pc' := 6) dX9_seed_3 rfl lk_X9_122 (l_55 hsh) (t_55 hsh) (c_X9_becomes (d := 0) (i := 0) hsh (by omega)) (by omega) (Nat.le_of_ble_eq_true rfl) (fun r S' I' hq => ?_)
  obtain ⟨rfl, rfl, rfl⟩ := hq
  refine P_iret dX9_seed_6 ?_
  exact RO.to (A := upd (aR I) 0 v) (show oSeed (aR T) v = (I 56 0, upd (aR I) 0 v) by rw [eR, hI.r (by omega)]; rfl) hI (PsR.put (by omega))
theorem r_rule {G : GX} {S : Shp} {I T : Mem} {d tn bn : Nat} {tx : Nat → Tx} (hT : KT T tn bn tx) (hsh : SHP S) (hI : RI T I) (y v : Int32) (hd : 12 ≤ d) : PM G yX9_rule cX9_rule 3 (some .int) d 0 0 [.ref 55, .int y, .int v] S I (RO S I (nw T (oRule (aR T) y v).2) (oRule (aR T) y v).1) := by
  obtain ⟨n, hn, hw, eR, hz, hr, hrd⟩ := hT.n hI
  refine PM.of (ls := [some (.ref 55), some (.int y), some (.int v)]) (by decide) rfl (Nat.le_of_ble_eq_true rfl) rfl ?_
  show PW G RX9 "rule" _ _ _ _ _ _ _ _ _ _ _ _
  by_cases y0 : y = 0
  · subst y0
    have eo : oRule (aR T) 0 v = if wi v 0 100 = 0 then (-1000000001, aR T) else (aR T 3, upd (aR T) 3 v) := if_pos rfl
    refine P_iload1 (pc' := 1) dX9_rule_0 rfl ?_
    refine P_iconst (pc' := 2) dX9_rule_1 rfl (v := 0) rfl ?_
    refine P_iconst (pc' := 3) dX9_rule_2 rfl (v := 2) rfl ?_
    refine P_callS3 (pc' := 6) dX9_rule_3 rfl lk_X9_75 (c_X9_in (d := 0) 0 0 2) (by omega) (Nat.le_of_ble_eq_true rfl) (fun r S' I' hq => ?_)
    obtain ⟨rfl, rfl, rfl⟩ := hq
    refine P_if_eq (tgt := 48) (pc' := 9) dX9_rule_6 rfl rfl (fun h6 => ?_) (fun h6 => ?_)
    · exact absurd h6 (by decide)
    · refine P_iload2 (pc' := 10) dX9_rule_9 rfl ?_
      refine P_iconst (pc' := 11) dX9_rule_10 rfl (v := 0) rfl ?_
      refine P_iload1 (pc' := 12) dX9_rule_11 rfl ?_
      refine P_if_ne (tgt := 20) (pc' := 15) dX9_rule_12 rfl rfl (fun h12 => ?_) (fun h12 => ?_)
      · exact absurd rfl h12
      · refine P_bipush (pc' := 17) dX9_rule_15 rfl (v := 100) rfl ?_
        refine P_goto (tgt := 31) dX9_rule_17 rfl ?_
        refine P_callS3 (pc' := 34) dX9_rule_31 rfl lk_X9_75 (c_X9_in (d := 0) v 0 100) (by omega) (Nat.le_of_ble_eq_true rfl) (fun r S' I' hq => ?_)
        obtain ⟨rfl, rfl, rfl⟩ := hq
        refine P_if_eq (tgt := 48) (pc' := 37) dX9_rule_34 rfl rfl (fun h34 => ?_) (fun h34 => ?_)
        · refine P_ldc (pc' := 50) dX9_rule_48 rfl co_X9_83 ?_
          refine P_iret dX9_rule_50 ?_
          first
            | exact RO.of (eo.trans (if_pos h34)) hI
            | exact RO.to (A := upd (aR I) 3 v) (eo.trans ((if_neg h34).trans (by rw [eR, hI.r (by omega)]))) hI (PsR.put (by omega))
        · refine P_aload0 (pc' := 38) dX9_rule_37 rfl ?_
          refine P_iconst (pc' := 39) dX9_rule_38 rfl (v := 3) rfl ?_
          refine P_iload1 (pc' := 40) dX9_rule_39 rfl ?_
          refine P_iadd (pc' := 41) dX9_rule_40 rfl ?_
          refine P_iload2 (pc' := 42) dX9_rule_41 rfl ?_
          refine P_callV2 (pc' := 45) dX9_rule_42 rfl lk_X9_122 (l_55 hsh) (t_55 hsh) (c_X9_becomes (d := 0) (i := 3) hsh (by omega)) (by omega) (Nat.le_of_ble_eq_true rfl) (fun r S' I' hq => ?_)
          obtain ⟨rfl, rfl, rfl⟩ := hq
          refine P_goto (tgt := 50) dX9_rule_45 rfl ?_
          refine P_iret dX9_rule_50 ?_
          first
            | exact RO.of (eo.trans (if_pos h34)) hI
            | exact RO.to (A := upd (aR I) 3 v) (eo.trans ((if_neg h34).trans (by rw [eR, hI.r (by omega)]))) hI (PsR.put (by omega))
  by_cases y1 : y = 1
  · subst y1
    have eo : oRule (aR T) 1 v = if wi v 0 1 = 0 then (-1000000001, aR T) else (aR T 4, upd (aR T) 4 v) := (if_neg y0).trans (if_pos rfl)
    refine P_iload1 (pc' := 1) dX9_rule_0 rfl ?_
    refine P_iconst (pc' := 2) dX9_rule_1 rfl (v := 0) rfl ?_
    refine P_iconst (pc' := 3) dX9_rule_2 rfl (v := 2) rfl ?_
    refine P_callS3 (pc' := 6) dX9_rule_3 rfl lk_X9_75 (c_X9_in (d := 0) 1 0 2) (by omega) (Nat.le_of_ble_eq_true rfl) (fun r S' I' hq => ?_)
    obtain ⟨rfl, rfl, rfl⟩ := hq
    refine P_if_eq (tgt := 48) (pc' := 9) dX9_rule_6 rfl rfl (fun h6 => ?_) (fun h6 => ?_)
    · exact absurd h6 (by decide)
    · refine P_iload2 (pc' := 10) dX9_rule_9 rfl ?_
      refine P_iconst (pc' := 11) dX9_rule_10 rfl (v := 0) rfl ?_
      refine P_iload1 (pc' := 12) dX9_rule_11 rfl ?_
      refine P_if_ne (tgt := 20) (pc' := 15) dX9_rule_12 rfl rfl (fun h12 => ?_) (fun h12 => ?_)
      · refine P_iload1 (pc' := 21) dX9_rule_20 rfl ?_
        refine P_iconst (pc' := 22) dX9_rule_21 rfl (v := 1) rfl ?_
        refine P_icmp_ne (tgt := 29) (pc' := 25) dX9_rule_22 rfl rfl (fun h22 => ?_) (fun h22 => ?_)
        · exact absurd rfl h22
        · refine P_iconst (pc' := 26) dX9_rule_25 rfl (v := 1) rfl ?_
          refine P_goto (tgt := 31) dX9_rule_26 rfl ?_
          refine P_callS3 (pc' := 34) dX9_rule_31 rfl lk_X9_75 (c_X9_in (d := 0) v 0 1) (by omega) (Nat.le_of_ble_eq_true rfl) (fun r S' I' hq => ?_)
          obtain ⟨rfl, rfl, rfl⟩ := hq
          refine P_if_eq (tgt := 48) (pc' := 37) dX9_rule_34 rfl rfl (fun h34 => ?_) (fun h34 => ?_)
          · refine P_ldc (pc' := 50) dX9_rule_48 rfl co_X9_83 ?_
            refine P_iret dX9_rule_50 ?_
            first
              | exact RO.of (eo.trans (if_pos h34)) hI
              | exact RO.to (A := upd (aR I) 4 v) (eo.trans ((if_neg h34).trans (by rw [eR, hI.r (by omega)]))) hI (PsR.put (by omega))
          · refine P_aload0 (pc' := 38) dX9_rule_37 rfl ?_
            refine P_iconst (pc' := 39) dX9_rule_38 rfl (v := 3) rfl ?_
            refine P_iload1 (pc' := 40) dX9_rule_39 rfl ?_
            refine P_iadd (pc' := 41) dX9_rule_40 rfl ?_
            refine P_iload2 (pc' := 42) dX9_rule_41 rfl ?_
            refine P_callV2 (pc' := 45) dX9_rule_42 rfl lk_X9_122 (l_55 hsh) (t_55 hsh) (c_X9_becomes (d := 0) (i := 4) hsh (by omega)) (by omega) (Nat.le_of_ble_eq_true rfl) (fun r S' I' hq => ?_)
            obtain ⟨rfl, rfl, rfl⟩ := hq
            refine P_goto (tgt := 50) dX9_rule_45 rfl ?_
            refine P_iret dX9_rule_50 ?_
            first
              | exact RO.of (eo.trans (if_pos h34)) hI
              | exact RO.to (A := upd (aR I) 4 v) (eo.trans ((if_neg h34).trans (by rw [eR, hI.r (by omega)]))) hI (PsR.put (by omega))
      · exact absurd h12 (by decide)
  by_cases y2 : y = 2
  · subst y2
    have eo : oRule (aR T) 2 v = if wi v 0 8 = 0 then (-1000000001, aR T) else (aR T 5, upd (aR T) 5 v) := (if_neg y0).trans ((if_neg y1).trans (if_pos rfl))
    refine P_iload1 (pc' := 1) dX9_rule_0 rfl ?_
    refine P_iconst (pc' := 2) dX9_rule_1 rfl (v := 0) rfl ?_
    refine P_iconst (pc' := 3) dX9_rule_2 rfl (v := 2) rfl ?_
    refine P_callS3 (pc' := 6) dX9_rule_3 rfl lk_X9_75 (c_X9_in (d := 0) 2 0 2) (by omega) (Nat.le_of_ble_eq_true rfl) (fun r S' I' hq => ?_)
    obtain ⟨rfl, rfl, rfl⟩ := hq
    refine P_if_eq (tgt := 48) (pc' := 9) dX9_rule_6 rfl rfl (fun h6 => ?_) (fun h6 => ?_)
    · exact absurd h6 (by decide)
    · refine P_iload2 (pc' := 10) dX9_rule_9 rfl ?_
      refine P_iconst (pc' := 11) dX9_rule_10 rfl (v := 0) rfl ?_
      refine P_iload1 (pc' := 12) dX9_rule_11 rfl ?_
      refine P_if_ne (tgt := 20) (pc' := 15) dX9_rule_12 rfl rfl (fun h12 => ?_) (fun h12 => ?_)
      · refine P_iload1 (pc' := 21) dX9_rule_20 rfl ?_
        refine P_iconst (pc' := 22) dX9_rule_21 rfl (v := 1) rfl ?_
        refine P_icmp_ne (tgt := 29) (pc' := 25) dX9_rule_22 rfl rfl (fun h22 => ?_) (fun h22 => ?_)
        · refine P_bipush (pc' := 31) dX9_rule_29 rfl (v := 8) rfl ?_
          refine P_callS3 (pc' := 34) dX9_rule_31 rfl lk_X9_75 (c_X9_in (d := 0) v 0 8) (by omega) (Nat.le_of_ble_eq_true rfl) (fun r S' I' hq => ?_)
          obtain ⟨rfl, rfl, rfl⟩ := hq
          refine P_if_eq (tgt := 48) (pc' := 37) dX9_rule_34 rfl rfl (fun h34 => ?_) (fun h34 => ?_)
          · refine P_ldc (pc' := 50) dX9_rule_48 rfl co_X9_83 ?_
            refine P_iret dX9_rule_50 ?_
            first
              | exact RO.of (eo.trans (if_pos h34)) hI
              | exact RO.to (A := upd (aR I) 5 v) (eo.trans ((if_neg h34).trans (by rw [eR, hI.r (by omega)]))) hI (PsR.put (by omega))
          · refine P_aload0 (pc' := 38) dX9_rule_37 rfl ?_
            refine P_iconst (pc' := 39) dX9_rule_38 rfl (v := 3) rfl ?_
            refine P_iload1 (pc' := 40) dX9_rule_39 rfl ?_
            refine P_iadd (pc' := 41) dX9_rule_40 rfl ?_
            refine P_iload2 (pc' := 42) dX9_rule_41 rfl ?_
            refine P_callV2 (pc' := 45) dX9_rule_42 rfl lk_X9_122 (l_55 hsh) (t_55 hsh) (c_X9_becomes (d := 0) (i := 5) hsh (by omega)) (by omega) (Nat.le_of_ble_eq_true rfl) (fun r S' I' hq => ?_)
            obtain ⟨rfl, rfl, rfl⟩ := hq
            refine P_goto (tgt := 50) dX9_rule_45 rfl ?_
            refine P_iret dX9_rule_50 ?_
            first
              | exact RO.of (eo.trans (if_pos h34)) hI
              | exact RO.to (A := upd (aR I) 5 v) (eo.trans ((if_neg h34).trans (by rw [eR, hI.r (by omega)]))) hI (PsR.put (by omega))
        · exact absurd h22 (by decide)
      · exact absurd h12 (by decide)
  have eo : oRule (aR T) y v = (-1000000001, aR T) := (if_neg y0).trans ((if_neg y1).trans (if_neg y2))
  have y3 : wi y 0 2 = 0 := Classical.byContradiction (fun z => by
    obtain ⟨i, i2, rfl⟩ := wi_b (m := 2) (by decide) z
    have key : i = 0 ∨ i = 1 ∨ i = 2 := by omega
    rcases key with rfl | rfl | rfl
    · exact y0 rfl
    · exact y1 rfl
    · exact y2 rfl)
  refine P_iload1 (pc' := 1) dX9_rule_0 rfl ?_
  refine P_iconst (pc' := 2) dX9_rule_1 rfl (v := 0) rfl ?_
  refine P_iconst (pc' := 3) dX9_rule_2 rfl (v := 2) rfl ?_
  refine P_callS3 (pc' := 6) dX9_rule_3 rfl lk_X9_75 (c_X9_in (d := 0) y 0 2) (by omega) (Nat.le_of_ble_eq_true rfl) (fun r S' I' hq => ?_)
  obtain ⟨rfl, rfl, rfl⟩ := hq
  refine P_if_eq (tgt := 48) (pc' := 9) dX9_rule_6 rfl rfl (fun h6 => ?_) (fun h6 => ?_)
  · refine P_ldc (pc' := 50) dX9_rule_48 rfl co_X9_83 ?_
    refine P_iret dX9_rule_50 ?_
    exact RO.of eo hI
  · exact absurd y3 h6

