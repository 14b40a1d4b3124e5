theorem nI_min {a b : Nat} (ha : a < 2 ^ 31) (hb : b < 2 ^ 31) : (if nI b < nI a then nI b else nI a) = nI (min a b) := by
  by_cases h : b < a
  · rw [if_pos (Int32.not_le.mp (nI_ge h ha)), Nat.min_eq_right (by omega)]
  · rw [if_neg (Int32.not_lt.mpr (nI_le (by omega) hb)), Nat.min_eq_left (by omega)]
theorem K.h {S : Shp} {I T : Mem} {tn bn : Nat} {tx : Nat → Tx} (h : K S I T tn bn tx) : ∃ g, g ≤ 9999 ∧ aR T 2 = nI g := by
  obtain ⟨g, hg, e, -⟩ := h.1.1.2.1
  exact ⟨g, hg, e⟩
def oHrs (al : Int32 → Int32 → Int32 → Int32) (A : Nat → Int32) (v : Int32) : Int32 × (Nat → Int32) := if wi v 1 100 = 0 then (-1000000001, A) else (aSum (aHrs al (A 1).toNatClampNeg (min v.toNatClampNeg (9999 - (A 2).toNatClampNeg)) A) 20 (A 1).toNatClampNeg - aSum A 20 (A 1).toNatClampNeg, aHrs al (A 1).toNatClampNeg (min v.toNatClampNeg (9999 - (A 2).toNatClampNeg)) A)
theorem oHrs_y {al : Int32 → Int32 → Int32 → Int32} {A : Nat → Int32} {n j g : Nat} (h : ¬ wi (nI j) 1 100 = 0) (hn : A 1 = nI n) (hn9 : n ≤ 9) (hj : j ≤ 100) (hg : A 2 = nI g) (hg9 : g ≤ 9999) : oHrs al A (nI j) = (aSum (aHrs al n (min j (9999 - g)) A) 20 n - aSum A 20 n, aHrs al n (min j (9999 - g)) A) := by
  unfold oHrs
  rw [if_neg h, hn, hg, nI_clamp (by omega), nI_clamp (by omega), nI_clamp (by omega)]
theorem x_hours {G : GX} {S : Shp} {I T : Mem} {d tn bn : Nat} {tx : Nat → Tx} (hK : K S I T tn bn tx) (v : Int32) (hd : 12 ≤ d) : PM G yX8_hours cX8_hours 3 (some .int) d 0 0 [.ref 0, .int v] S I (CO I (nw T (oHrs (alX tn tx) (aR T) v).2) tn bn tx (oHrs (alX tn tx) (aR T) v).1) := by
  obtain ⟨n, hn, hw, hA, hz, ht⟩ := hK.n
  obtain ⟨g, hg, eg⟩ := hK.h
  have hsh := hK.2.1
  refine PM.of (ls := [some (.ref 0), some (.int v), none]) (by decide) rfl (Nat.le_of_ble_eq_true rfl) rfl ?_
  show PW G RX8 "hours" _ _ _ _ _ _ _ _ _ _ _ _
  refine P_iload1 (pc' := 1) dX8_hours_0 rfl ?_
  refine P_iconst (pc' := 2) dX8_hours_1 rfl (v := 1) rfl ?_
  refine P_bipush (pc' := 4) dX8_hours_2 rfl (v := 100) rfl ?_
  refine P_callS3 (pc' := 7) dX8_hours_4 rfl lk_X8_77 (c_X8_wi (d := 0) v 1 100) (by omega) (Nat.le_of_ble_eq_true rfl) (fun r S' I' hq => ?_)
  obtain ⟨rfl, rfl, rfl⟩ := hq
  refine P_if_ne (tgt := 13) (pc' := 10) dX8_hours_7 rfl rfl (fun h7 => ?_) (fun h7 => ?_)
  · obtain ⟨j, j1, j2, rfl⟩ := wi_b1 (m := 100) (by decide) h7
    refine P_aload0 (pc' := 14) dX8_hours_13 rfl ?_
    refine P_getr (pc' := 17) dX8_hours_14 rfl fl_X8_10 rfl (l_0 hsh) (t_0 hsh) (q_0_0 hsh) ?_
    refine P_callV0 (pc' := 20) dX8_hours_17 rfl lk_X8_163 (l_1 hsh) (t_1 hsh) (c_X5_allHats (d := 1) (n := n) hsh (Or.inl rfl) hz (by omega)) (by omega) (Nat.le_of_ble_eq_true rfl) (fun r S' I' hq => ?_)
    obtain ⟨rfl, rfl, rfl⟩ := hq
    refine P_istore2 (pc' := 21) dX8_hours_20 rfl (by decide) rfl ?_
    refine P_aload0 (pc' := 22) dX8_hours_21 rfl ?_
    refine P_getr (pc' := 25) dX8_hours_22 rfl fl_X8_47 rfl (l_0 hsh) (t_0 hsh) (q_0_7 hsh) ?_
    refine P_aload0 (pc' := 26) dX8_hours_25 rfl ?_
    refine P_iconst (pc' := 27) dX8_hours_26 rfl (v := 0) rfl ?_
    refine P_aload0 (pc' := 28) dX8_hours_27 rfl ?_
    refine P_getr (pc' := 31) dX8_hours_28 rfl fl_X8_10 rfl (l_0 hsh) (t_0 hsh) (q_0_0 hsh) ?_
    refine P_geti (pc' := 34) dX8_hours_31 rfl fl_X8_117 rfl (l_1 hsh) (t_1 hsh) ?_
    refine P_as ht ?_
    refine P_callV2 (pc' := 37) dX8_hours_34 rfl lk_X8_119 (l_0 hsh) (t_0 hsh) (c_X8_counting (d := 3) (k := 0) hsh hK.2.2.2.2.1 (by decide) (Nat.le_refl tn) (by omega)) (by omega) (Nat.le_of_ble_eq_true rfl) (fun r S' I' hq => ?_)
    obtain ⟨rfl, rfl, rfl⟩ := hq
    refine P_callV1 (pc' := 40) dX8_hours_37 rfl lk_X8_123 (l_27 hsh) (t_27 hsh) (c_X0_follow (d := 1) (ctP S tx 0 tn) hsh hK.fx hK.fy (by omega)) (by omega) (Nat.le_of_ble_eq_true rfl) (fun r S2 I2 hq => ?_); obtain ⟨rfl, hS2, hI2⟩ := hq; obtain ⟨hK2, hal2, hf2⟩ := fol_all hK (Nat.le_refl tn) hS2 hI2; have hsh2 := hK2.2.1; have hw2 : WA (aC 1 I2) n := by rw [hK2.2.2.1]; exact hw
    refine P_aload0 (pc' := 41) dX8_hours_40 rfl ?_
    refine P_getr (pc' := 44) dX8_hours_41 rfl fl_X8_10 rfl (l_0 hsh2) (t_0 hsh2) (q_0_0 hsh2) ?_
    refine P_iload1 (pc' := 45) dX8_hours_44 rfl ?_
    refine P_sipush (pc' := 48) dX8_hours_45 rfl (v := 9999) rfl ?_
    refine P_aload0 (pc' := 49) dX8_hours_48 rfl ?_
    refine P_getr (pc' := 52) dX8_hours_49 rfl fl_X8_10 rfl (l_0 hsh2) (t_0 hsh2) (q_0_0 hsh2) ?_
    refine P_geti (pc' := 55) dX8_hours_52 rfl fl_X8_166 rfl (l_1 hsh2) (t_1 hsh2) ?_
    refine P_isub (pc' := 56) dX8_hours_55 rfl ?_
    refine P_as (y := nI (9999 - g)) (by rw [hK2.sc.2.2.1, eg]; exact pk_sub (a := 9999) (b := g) hg) ?_
    refine P_min (pc' := 59) dX8_hours_56 rfl lk_X8_151 (by omega) (Nat.le_of_ble_eq_true rfl) ?_
    refine P_as (nI_min (a := j) (b := 9999 - g) (by omega) (by omega)) ?_
    refine P_aload0 (pc' := 60) dX8_hours_59 rfl ?_
    refine P_getr (pc' := 63) dX8_hours_60 rfl fl_X8_47 rfl (l_0 hsh2) (t_0 hsh2) (q_0_7 hsh2) ?_
    refine P_callV2 (pc' := 66) dX8_hours_63 rfl lk_X8_169 (l_1 hsh2) (t_1 hsh2) (c_X5_passHours (d := 6) (n := n) hsh2 (Or.inl rfl) hal2 hw2 (by omega) (by omega)) (by omega) (Nat.le_of_ble_eq_true rfl) (fun r S' I' hq => ?_)
    obtain ⟨rfl, rfl, hP⟩ := hq
    have hz3 : I' 1 6 = nI n := by
      have e : aC 1 I' 1 = I' 1 6 := rfl
      rw [← e, hP.1]
      exact (aHrs_wa hw2).1
    refine P_aload0 (pc' := 67) dX8_hours_66 rfl ?_
    refine P_getr (pc' := 70) dX8_hours_67 rfl fl_X8_10 rfl (l_0 hsh2) (t_0 hsh2) (q_0_0 hsh2) ?_
    refine P_callV0 (pc' := 73) dX8_hours_70 rfl lk_X8_163 (l_1 hsh2) (t_1 hsh2) (c_X5_allHats (d := 1) (n := n) hsh2 (Or.inl rfl) hz3 (by omega)) (by omega) (Nat.le_of_ble_eq_true rfl) (fun r S' I' hq => ?_)
    obtain ⟨rfl, rfl, rfl⟩ := hq
    refine P_iload2 (pc' := 74) dX8_hours_73 rfl ?_
    refine P_isub (pc' := 75) dX8_hours_74 rfl ?_
    refine P_iret dX8_hours_75 ?_
    have e := oHrs_y (al := alX tn tx) h7 hw.1 (by omega) j2 eg hg
    rw [e, hP.1, hA, hK2.2.2.1]
    have hKN := hK.1.1.hrs (k := min j (9999 - g)) (alX_n tn tx) hw eg (by omega)
    have hK3 := hK2.ps hP (by rw [hK2.2.2.1]; exact hKN) (by rw [hK2.2.2.1]; exact aHrs_7)
    rw [hK2.2.2.1] at hK3
    exact ⟨rfl, hK3, fun x h1 h2 => by rw [hP.2.2 x (by unfold Scr; omega) (by omega), hf2 x (by omega)]⟩
  · refine P_ldc (pc' := 12) dX8_hours_10 rfl co_X8_81 ?_
    refine P_iret dX8_hours_12 ?_
    refine CO.of ?_ hK
    unfold oHrs
    rw [if_pos h7]
def vGui (A : Nat → Int32) (y : Int32) : Int32 := if y = 0 then aSum A 19 (A 1).toNatClampNeg else if y = 1 then A 6 else if y = 2 then aSum A 20 (A 1).toNatClampNeg else if y = 3 then aAgs A (A 1).toNatClampNeg 0 0 else if y = 4 then aTak A (A 1).toNatClampNeg 0 0 else -1000000001
theorem vGui_n {A : Nat → Int32} {n : Nat} {y : Int32} (h : A 1 = nI n) (hn : n ≤ 9) : vGui A y = if y = 0 then aSum A 19 n else if y = 1 then A 6 else if y = 2 then aSum A 20 n else if y = 3 then aAgs A n 0 0 else if y = 4 then aTak A n 0 0 else -1000000001 := by
  unfold vGui
  rw [h, nI_clamp (by omega)]
theorem x_guild {G : GX} {S : Shp} {I T : Mem} {d tn bn : Nat} {tx : Nat → Tx} (hK : K S I T tn bn tx) (y : Int32) (hd : 12 ≤ d) : PM G yX8_guild cX8_guild 2 (some .int) d 0 0 [.ref 0, .int y] S I (CO I T tn bn tx (vGui (aR T) y)) := by
  obtain ⟨n, hn, hw, hA, hz, ht⟩ := hK.n
  have hsh := hK.2.1
  refine PM.of (ls := [some (.ref 0), some (.int y)]) (by decide) rfl (Nat.le_of_ble_eq_true rfl) rfl ?_
  show PW G RX8 "guild" _ _ _ _ _ _ _ _ _ _ _ _
  rw [vGui_n hw.1 (by omega)]
  rcases sw_c y 4 with ⟨i, hi, rfl⟩ | hy
  · have key : i = 0 ∨ i = 1 ∨ i = 2 ∨ i = 3 ∨ i = 4 := by omega
    rcases key with rfl | rfl | rfl | rfl | rfl
    · show PW _ _ _ _ _ _ _ _ _ (CO I T tn bn tx (aSum (aR T) 19 n)) _ _ _ _ _
      refine P_iload1 (pc' := 1) dX8_guild_0 rfl ?_
      refine P_tabIn (tgt := 36) dX8_guild_1 (by decide) (by decide) rfl rfl ?_
      refine P_aload0 (pc' := 37) dX8_guild_36 rfl ?_
      refine P_getr (pc' := 40) dX8_guild_37 rfl fl_X8_10 rfl (l_0 hsh) (t_0 hsh) (q_0_0 hsh) ?_
      refine P_callV0 (pc' := 43) dX8_guild_40 rfl lk_X8_173 (l_1 hsh) (t_1 hsh) (c_X5_allPurses (d := 1) (n := n) hsh (Or.inl rfl) hz (by omega)) (by omega) (Nat.le_of_ble_eq_true rfl) (fun r S' I' hq => ?_)
      obtain ⟨rfl, rfl, rfl⟩ := hq
      refine P_iret dX8_guild_43 ?_
      rw [hA]
      exact CO.id hK
    · show PW _ _ _ _ _ _ _ _ _ (CO I T tn bn tx (aR T 6)) _ _ _ _ _
      refine P_iload1 (pc' := 1) dX8_guild_0 rfl ?_
      refine P_tabIn (tgt := 44) dX8_guild_1 (by decide) (by decide) rfl rfl ?_
      refine P_aload0 (pc' := 45) dX8_guild_44 rfl ?_
      refine P_getr (pc' := 48) dX8_guild_45 rfl fl_X8_10 rfl (l_0 hsh) (t_0 hsh) (q_0_0 hsh) ?_
      refine P_geti (pc' := 51) dX8_guild_48 rfl fl_X8_176 rfl (l_1 hsh) (t_1 hsh) ?_
      refine P_iret dX8_guild_51 ?_
      rw [hK.sc.2.2.2.2.2.2.1]
      exact CO.id hK
    · show PW _ _ _ _ _ _ _ _ _ (CO I T tn bn tx (aSum (aR T) 20 n)) _ _ _ _ _
      refine P_iload1 (pc' := 1) dX8_guild_0 rfl ?_
      refine P_tabIn (tgt := 52) dX8_guild_1 (by decide) (by decide) rfl rfl ?_
      refine P_aload0 (pc' := 53) dX8_guild_52 rfl ?_
      refine P_getr (pc' := 56) dX8_guild_53 rfl fl_X8_10 rfl (l_0 hsh) (t_0 hsh) (q_0_0 hsh) ?_
      refine P_callV0 (pc' := 59) dX8_guild_56 rfl lk_X8_163 (l_1 hsh) (t_1 hsh) (c_X5_allHats (d := 1) (n := n) hsh (Or.inl rfl) hz (by omega)) (by omega) (Nat.le_of_ble_eq_true rfl) (fun r S' I' hq => ?_)
      obtain ⟨rfl, rfl, rfl⟩ := hq
      refine P_iret dX8_guild_59 ?_
      rw [hA]
      exact CO.id hK
    · show PW _ _ _ _ _ _ _ _ _ (CO I T tn bn tx (aAgs (aR T) n 0 0)) _ _ _ _ _
      refine P_iload1 (pc' := 1) dX8_guild_0 rfl ?_
      refine P_tabIn (tgt := 60) dX8_guild_1 (by decide) (by decide) rfl rfl ?_
      refine P_aload0 (pc' := 61) dX8_guild_60 rfl ?_
      refine P_getr (pc' := 64) dX8_guild_61 rfl fl_X8_10 rfl (l_0 hsh) (t_0 hsh) (q_0_0 hsh) ?_
      refine P_callV0 (pc' := 67) dX8_guild_64 rfl lk_X8_179 (l_1 hsh) (t_1 hsh) (c_X5_againstLaw (d := 5) (n := n) hsh (Or.inl rfl) hz (by omega) (by omega)) (by omega) (Nat.le_of_ble_eq_true rfl) (fun r S' I' hq => ?_)
      obtain ⟨rfl, rfl, rfl⟩ := hq
      refine P_iret dX8_guild_67 ?_
      rw [hA]
      exact CO.id hK
    · show PW _ _ _ _ _ _ _ _ _ (CO I T tn bn tx (aTak (aR T) n 0 0)) _ _ _ _ _
      refine P_iload1 (pc' := 1) dX8_guild_0 rfl ?_
      refine P_tabIn (tgt := 68) dX8_guild_1 (by decide) (by decide) rfl rfl ?_
      refine P_aload0 (pc' := 69) dX8_guild_68 rfl ?_
      refine P_getr (pc' := 72) dX8_guild_69 rfl fl_X8_10 rfl (l_0 hsh) (t_0 hsh) (q_0_0 hsh) ?_
      refine P_callV0 (pc' := 75) dX8_guild_72 rfl lk_X8_182 (l_1 hsh) (t_1 hsh) (c_X5_taken (d := 1) (n := n) hsh (Or.inl rfl) hz (by omega)) (by omega) (Nat.le_of_ble_eq_true rfl) (fun r S' I' hq => ?_)
      obtain ⟨rfl, rfl, rfl⟩ := hq
      refine P_iret dX8_guild_75 ?_
      rw [hA]
      exact CO.id hK
  · have e0 : ∀ i : Nat, i ≤ 4 → ¬ y = nI i := fun i hi z => by rw [z, nI_toInt (by omega)] at hy; omega
    rw [if_neg (show ¬ y = 0 from e0 0 (by decide)), if_neg (show ¬ y = 1 from e0 1 (by decide)), if_neg (show ¬ y = 2 from e0 2 (by decide)), if_neg (show ¬ y = 3 from e0 3 (by decide)), if_neg (show ¬ y = 4 from e0 4 (by decide))]
    refine P_iload1 (pc' := 1) dX8_guild_0 rfl ?_
    refine P_tabOut (tgt := 76) dX8_guild_1 hy rfl ?_
    refine P_ldc (pc' := 78) dX8_guild_76 rfl co_X8_81 ?_
    refine P_iret dX8_guild_78 ?_
    exact CO.id hK
def vCou (T : Mem) (y : Int32) : Int32 := if y = 0 then aR T 1 else if y = 1 then aR T 2 else if y = 2 then aR T 3 else if y = 3 then aR T 4 else if y = 4 then aR T 5 else if y = 5 then aR T 7 else if y = 6 then T 55 32 else if y = 7 then T 55 6 else if y = 8 then aR T 0 else -1000000001
theorem x_count {G : GX} {S : Shp} {I T : Mem} {d tn bn : Nat} {tx : Nat → Tx} (hK : K S I T tn bn tx) (y : Int32) (hd : 12 ≤ d) : PM G yX8_count cX8_count 2 (some .int) d 0 0 [.ref 0, .int y] S I (CO I T tn bn tx (vCou T y)) := by
  obtain ⟨n, hn, hw, hA, hz, ht⟩ := hK.n
  have hsh := hK.2.1
  refine PM.of (ls := [some (.ref 0), some (.int y)]) (by decide) rfl (Nat.le_of_ble_eq_true rfl) rfl ?_
  show PW G RX8 "count" _ _ _ _ _ _ _ _ _ _ _ _
  obtain ⟨s0, s1, s2, s3, s4, s5, s6, s7⟩ := hK.sc
  have w4 := hw.2.2.1
  have c9 := hK.2.2.2.2.2.2.2.2.1.1
  have c10 := hK.2.2.2.2.2.2.2.2.2.1
  unfold vCou
  rcases sw_c y 8 with ⟨i, hi, rfl⟩ | hy
  · have key : i = 0 ∨ i = 1 ∨ i = 2 ∨ i = 3 ∨ i = 4 ∨ i = 5 ∨ i = 6 ∨ i = 7 ∨ i = 8 := by omega
    rcases key with rfl | rfl | rfl | rfl | rfl | rfl | rfl | rfl | rfl
    · show PW _ _ _ _ _ _ _ _ _ (CO I T tn bn tx (aR T 1)) _ _ _ _ _
      refine P_iload1 (pc' := 1) dX8_count_0 rfl ?_
      refine P_tabIn (tgt := 52) dX8_count_1 (by decide) (by decide) rfl rfl ?_
      refine P_aload0 (pc' := 53) dX8_count_52 rfl ?_
      refine P_getr (pc' := 56) dX8_count_53 rfl fl_X8_10 rfl (l_0 hsh) (t_0 hsh) (q_0_0 hsh) ?_
      refine P_geti (pc' := 59) dX8_count_56 rfl fl_X8_82 rfl (l_1 hsh) (t_1 hsh) ?_
      refine P_iret dX8_count_59 ?_
      rw [s1]
      exact CO.id hK
    · show PW _ _ _ _ _ _ _ _ _ (CO I T tn bn tx (aR T 2)) _ _ _ _ _
      refine P_iload1 (pc' := 1) dX8_count_0 rfl ?_
      refine P_tabIn (tgt := 60) dX8_count_1 (by decide) (by decide) rfl rfl ?_
      refine P_aload0 (pc' := 61) dX8_count_60 rfl ?_
      refine P_getr (pc' := 64) dX8_count_61 rfl fl_X8_10 rfl (l_0 hsh) (t_0 hsh) (q_0_0 hsh) ?_
      refine P_geti (pc' := 67) dX8_count_64 rfl fl_X8_166 rfl (l_1 hsh) (t_1 hsh) ?_
      refine P_iret dX8_count_67 ?_
      rw [s2]
      exact CO.id hK
    · show PW _ _ _ _ _ _ _ _ _ (CO I T tn bn tx (aR T 3)) _ _ _ _ _
      refine P_iload1 (pc' := 1) dX8_count_0 rfl ?_
      refine P_tabIn (tgt := 68) dX8_count_1 (by decide) (by decide) rfl rfl ?_
      refine P_aload0 (pc' := 69) dX8_count_68 rfl ?_
      refine P_getr (pc' := 72) dX8_count_69 rfl fl_X8_10 rfl (l_0 hsh) (t_0 hsh) (q_0_0 hsh) ?_
      refine P_geti (pc' := 75) dX8_count_72 rfl fl_X8_142 rfl (l_1 hsh) (t_1 hsh) ?_
      refine P_iret dX8_count_75 ?_
      rw [s3]
      exact CO.id hK
    · show PW _ _ _ _ _ _ _ _ _ (CO I T tn bn tx (aR T 4)) _ _ _ _ _
      refine P_iload1 (pc' := 1) dX8_count_0 rfl ?_
      refine P_tabIn (tgt := 76) dX8_count_1 (by decide) (by decide) rfl rfl ?_
      refine P_aload0 (pc' := 77) dX8_count_76 rfl ?_
      refine P_getr (pc' := 80) dX8_count_77 rfl fl_X8_10 rfl (l_0 hsh) (t_0 hsh) (q_0_0 hsh) ?_
      refine P_geti (pc' := 83) dX8_count_80 rfl fl_X8_145 rfl (l_1 hsh) (t_1 hsh) ?_
      refine P_as s4 ?_
      refine P_if_eq (tgt := 90) (pc' := 86) dX8_count_83 rfl rfl (fun h83 => ?_) (fun h83 => ?_)
      · refine P_iconst (pc' := 91) dX8_count_90 rfl (v := 0) rfl ?_
        refine P_iret dX8_count_91 ?_
        first
          | (rw [h83]; exact CO.id hK)
          | (rw [w4.resolve_left h83]; exact CO.id hK)
      · refine P_iconst (pc' := 87) dX8_count_86 rfl (v := 1) rfl ?_
        refine P_goto (tgt := 91) dX8_count_87 rfl ?_
        refine P_iret dX8_count_91 ?_
        first
          | (rw [h83]; exact CO.id hK)
          | (rw [w4.resolve_left h83]; exact CO.id hK)
    · show PW _ _ _ _ _ _ _ _ _ (CO I T tn bn tx (aR T 5)) _ _ _ _ _
      refine P_iload1 (pc' := 1) dX8_count_0 rfl ?_
      refine P_tabIn (tgt := 92) dX8_count_1 (by decide) (by decide) rfl rfl ?_
      refine P_aload0 (pc' := 93) dX8_count_92 rfl ?_
      refine P_getr (pc' := 96) dX8_count_93 rfl fl_X8_10 rfl (l_0 hsh) (t_0 hsh) (q_0_0 hsh) ?_
      refine P_geti (pc' := 99) dX8_count_96 rfl fl_X8_148 rfl (l_1 hsh) (t_1 hsh) ?_
      refine P_iret dX8_count_99 ?_
      rw [s5]
      exact CO.id hK
    · show PW _ _ _ _ _ _ _ _ _ (CO I T tn bn tx (aR T 7)) _ _ _ _ _
      refine P_iload1 (pc' := 1) dX8_count_0 rfl ?_
      refine P_tabIn (tgt := 100) dX8_count_1 (by decide) (by decide) rfl rfl ?_
      refine P_aload0 (pc' := 101) dX8_count_100 rfl ?_
      refine P_getr (pc' := 104) dX8_count_101 rfl fl_X8_10 rfl (l_0 hsh) (t_0 hsh) (q_0_0 hsh) ?_
      refine P_geti (pc' := 107) dX8_count_104 rfl fl_X8_117 rfl (l_1 hsh) (t_1 hsh) ?_
      refine P_iret dX8_count_107 ?_
      rw [s7]
      exact CO.id hK
    · show PW _ _ _ _ _ _ _ _ _ (CO I T tn bn tx (T 55 32)) _ _ _ _ _
      refine P_iload1 (pc' := 1) dX8_count_0 rfl ?_
      refine P_tabIn (tgt := 108) dX8_count_1 (by decide) (by decide) rfl rfl ?_
      refine P_aload0 (pc' := 109) dX8_count_108 rfl ?_
      refine P_geti (pc' := 112) dX8_count_109 rfl fl_X8_67 rfl (l_0 hsh) (t_0 hsh) ?_
      refine P_iret dX8_count_112 ?_
      rw [c9]
      exact CO.id hK
    · show PW _ _ _ _ _ _ _ _ _ (CO I T tn bn tx (T 55 6)) _ _ _ _ _
      refine P_iload1 (pc' := 1) dX8_count_0 rfl ?_
      refine P_tabIn (tgt := 113) dX8_count_1 (by decide) (by decide) rfl rfl ?_
      refine P_aload0 (pc' := 114) dX8_count_113 rfl ?_
      refine P_getr (pc' := 117) dX8_count_114 rfl fl_X8_37 rfl (l_0 hsh) (t_0 hsh) (q_0_5 hsh) ?_
      refine P_geti (pc' := 120) dX8_count_117 rfl fl_X8_217 rfl (l_23 hsh) (t_23 hsh) ?_
      refine P_iret dX8_count_120 ?_
      rw [c10]
      exact CO.id hK
    · show PW _ _ _ _ _ _ _ _ _ (CO I T tn bn tx (aR T 0)) _ _ _ _ _
      refine P_iload1 (pc' := 1) dX8_count_0 rfl ?_
      refine P_tabIn (tgt := 121) dX8_count_1 (by decide) (by decide) rfl rfl ?_
      refine P_aload0 (pc' := 122) dX8_count_121 rfl ?_
      refine P_getr (pc' := 125) dX8_count_122 rfl fl_X8_10 rfl (l_0 hsh) (t_0 hsh) (q_0_0 hsh) ?_
      refine P_geti (pc' := 128) dX8_count_125 rfl fl_X8_160 rfl (l_1 hsh) (t_1 hsh) ?_
      refine P_iret dX8_count_128 ?_
      rw [s0]
      exact CO.id hK
  · have e0 : ∀ i : Nat, i ≤ 8 → ¬ y = nI i := fun i hi z => by rw [z, nI_toInt (by omega)] at hy; omega
    rw [if_neg (show ¬ y = 0 from e0 0 (by decide)), if_neg (show ¬ y = 1 from e0 1 (by decide)), if_neg (show ¬ y = 2 from e0 2 (by decide)), if_neg (show ¬ y = 3 from e0 3 (by decide)), if_neg (show ¬ y = 4 from e0 4 (by decide)), if_neg (show ¬ y = 5 from e0 5 (by decide)), if_neg (show ¬ y = 6 from e0 6 (by decide)), if_neg (show ¬ y = 7 from e0 7 (by decide)), if_neg (show ¬ y = 8 from e0 8 (by decide))]
    refine P_iload1 (pc' := 1) dX8_count_0 rfl ?_
    refine P_tabOut (tgt := 129) dX8_count_1 hy rfl ?_
    refine P_ldc (pc' := 131) dX8_count_129 rfl co_X8_81 ?_
    refine P_iret dX8_count_131 ?_
    exact CO.id hK
def vWhy (tn : Nat) (tx : Nat → Tx) (y : Int32) : Int32 := if wi y 0 2 = 0 then -1000000001 else match lastK tx y.toNatClampNeg tn with
  | none => -1000000005
  | some t => nI t
theorem x_why {G : GX} {S : Shp} {I T : Mem} {d tn bn : Nat} {tx : Nat → Tx} (hK : K S I T tn bn tx) (y : Int32) (hd : 12 ≤ d) : PM G yX8_why cX8_why 3 (some .int) d 0 0 [.ref 0, .int y] S I (CO I T tn bn tx (vWhy tn tx y)) := by
  obtain ⟨n, hn, hw, hA, hz, ht⟩ := hK.n
  have hsh := hK.2.1
  have h14 := hK.2.2.2.2.1.1
  refine PM.of (ls := [some (.ref 0), some (.int y), none]) (by decide) rfl (Nat.le_of_ble_eq_true rfl) rfl ?_
  show PW G RX8 "why" _ _ _ _ _ _ _ _ _ _ _ _
  by_cases hy : wi y 0 2 = 0
  · rw [show vWhy tn tx y = -1000000001 from if_pos hy]
    refine P_iload1 (pc' := 1) dX8_why_0 rfl ?_
    refine P_iconst (pc' := 2) dX8_why_1 rfl (v := 0) rfl ?_
    refine P_iconst (pc' := 3) dX8_why_2 rfl (v := 2) rfl ?_
    refine P_callS3 (pc' := 6) dX8_why_3 rfl lk_X8_77 (c_X8_wi (d := 0) y 0 2) (by omega) (Nat.le_of_ble_eq_true rfl) (fun r S' I' hq => ?_)
    obtain ⟨rfl, rfl, rfl⟩ := hq
    refine P_if_ne (tgt := 12) (pc' := 9) dX8_why_6 rfl rfl (fun h6 => ?_) (fun h6 => ?_)
    · exact absurd hy h6
    · refine P_ldc (pc' := 11) dX8_why_9 rfl co_X8_81 ?_
      refine P_iret dX8_why_11 ?_
      exact CO.id hK
  · obtain ⟨j, hj, rfl⟩ := wi_b (m := 2) (by decide) hy
    rw [show vWhy tn tx (nI j) = match lastK tx j tn with | none => -1000000005 | some t => nI t by unfold vWhy; rw [if_neg hy, nI_clamp (by omega)]]
    cases hl : lastK tx j tn with
    | none =>
      refine P_iload1 (pc' := 1) dX8_why_0 rfl ?_
      refine P_iconst (pc' := 2) dX8_why_1 rfl (v := 0) rfl ?_
      refine P_iconst (pc' := 3) dX8_why_2 rfl (v := 2) rfl ?_
      refine P_callS3 (pc' := 6) dX8_why_3 rfl lk_X8_77 (c_X8_wi (d := 0) (nI j) 0 2) (by omega) (Nat.le_of_ble_eq_true rfl) (fun r S' I' hq => ?_)
      obtain ⟨rfl, rfl, rfl⟩ := hq
      refine P_if_ne (tgt := 12) (pc' := 9) dX8_why_6 rfl rfl (fun h6 => ?_) (fun h6 => ?_)
      · refine P_aload0 (pc' := 13) dX8_why_12 rfl ?_
        refine P_iload1 (pc' := 14) dX8_why_13 rfl ?_
        refine P_aload0 (pc' := 15) dX8_why_14 rfl ?_
        refine P_getr (pc' := 18) dX8_why_15 rfl fl_X8_10 rfl (l_0 hsh) (t_0 hsh) (q_0_0 hsh) ?_
        refine P_geti (pc' := 21) dX8_why_18 rfl fl_X8_117 rfl (l_1 hsh) (t_1 hsh) ?_
        refine P_as ht ?_
        refine P_callV2 (pc' := 24) dX8_why_21 rfl lk_X8_236 (l_0 hsh) (t_0 hsh) (c_X8_lastOf (d := 3) hsh hK.2.2.2.2.1 hj (Nat.le_refl tn) (by omega)) (by omega) (Nat.le_of_ble_eq_true rfl) (fun r S' I' hq => ?_)
        obtain ⟨rfl, rfl, rfl⟩ := hq
        rw [hl]
        refine P_istore2 (pc' := 25) dX8_why_24 rfl (by decide) rfl ?_
        refine P_iload2 (pc' := 26) dX8_why_25 rfl ?_
        refine P_if_ge (tgt := 34) (pc' := 29) dX8_why_26 rfl rfl (fun h26 => ?_) (fun h26 => ?_)
        · exact absurd h26 (by decide)
        · refine P_ldc (pc' := 31) dX8_why_29 rfl co_X8_188 ?_
          refine P_goto (tgt := 35) dX8_why_31 rfl ?_
          refine P_iret dX8_why_35 ?_
          exact CO.id hK
      · exact absurd h6 hy
    | some t =>
      have htt := lastK_lt hl
      refine P_iload1 (pc' := 1) dX8_why_0 rfl ?_
      refine P_iconst (pc' := 2) dX8_why_1 rfl (v := 0) rfl ?_
      refine P_iconst (pc' := 3) dX8_why_2 rfl (v := 2) rfl ?_
      refine P_callS3 (pc' := 6) dX8_why_3 rfl lk_X8_77 (c_X8_wi (d := 0) (nI j) 0 2) (by omega) (Nat.le_of_ble_eq_true rfl) (fun r S' I' hq => ?_)
      obtain ⟨rfl, rfl, rfl⟩ := hq
      refine P_if_ne (tgt := 12) (pc' := 9) dX8_why_6 rfl rfl (fun h6 => ?_) (fun h6 => ?_)
      · refine P_aload0 (pc' := 13) dX8_why_12 rfl ?_
        refine P_iload1 (pc' := 14) dX8_why_13 rfl ?_
        refine P_aload0 (pc' := 15) dX8_why_14 rfl ?_
        refine P_getr (pc' := 18) dX8_why_15 rfl fl_X8_10 rfl (l_0 hsh) (t_0 hsh) (q_0_0 hsh) ?_
        refine P_geti (pc' := 21) dX8_why_18 rfl fl_X8_117 rfl (l_1 hsh) (t_1 hsh) ?_
        refine P_as ht ?_
        refine P_callV2 (pc' := 24) dX8_why_21 rfl lk_X8_236 (l_0 hsh) (t_0 hsh) (c_X8_lastOf (d := 3) hsh hK.2.2.2.2.1 hj (Nat.le_refl tn) (by omega)) (by omega) (Nat.le_of_ble_eq_true rfl) (fun r S' I' hq => ?_)
        obtain ⟨rfl, rfl, rfl⟩ := hq
        rw [hl]
        refine P_istore2 (pc' := 25) dX8_why_24 rfl (by decide) rfl ?_
        refine P_iload2 (pc' := 26) dX8_why_25 rfl ?_
        refine P_if_ge (tgt := 34) (pc' := 29) dX8_why_26 rfl rfl (fun h26 => ?_) (fun h26 => ?_)
        · refine P_iload2 (pc' := 35) dX8_why_34 rfl ?_
          refine P_iret dX8_why_35 ?_
          exact CO.id hK
        · exact absurd (nI_pos' (by omega)) h26
      · exact absurd h6 hy
def vTxt (tn : Nat) (tx : Nat → Tx) (t y : Int32) : Int32 := if wi t 0 (nI tn - 1) = 0 then -1000000001 else if y = 0 then nI (tx t.toNatClampNeg).1 else if y = 1 then nI (tx t.toNatClampNeg).2.2.1 else -1000000001

