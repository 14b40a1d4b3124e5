theorem lp_X9_sumOf {G : GX} {S : Shp} {I : Mem} {d n k : Nat} (hsh : SHP S) (hz : I 56 1 = nI n) (hn : n ≤ 9) (hk : k < 5) (hd : 1 ≤ d) : ∀ (q b : Nat), b + q = n → PW G RX9 "sumOf" cX9_sumOf 4 (some .int) d 0 0 (Rm S I (aSum (aR I) (16 + k) n)) 4 [some (.ref 55), some (.int (nI k)), some (.int (aSum (aR I) (16 + k) b)), some (.int (nI b))] [] S I := by
  intro q
  induction q with
  | zero =>
    intro b hb
    have hb : b = n := by omega
    subst hb
    refine P_iload3 (pc' := 5) dX9_sumOf_4 rfl ?_
    refine P_aload0 (pc' := 6) dX9_sumOf_5 rfl ?_
    refine P_getr (pc' := 9) dX9_sumOf_6 rfl fl_X9_9 rfl (l_55 hsh) (t_55 hsh) (q_55_0 hsh) ?_
    refine P_iconst (pc' := 10) dX9_sumOf_9 rfl (v := 1) rfl ?_
    refine P_iald (pc' := 11) dX9_sumOf_10 rfl (l_56 hsh) (t_56 hsh) (j := 1) rfl (by decide) (by decide) ?_
    refine P_icmp_ge (tgt := 29) (pc' := 14) dX9_sumOf_11 rfl rfl (fun h11 => ?_) (fun h11 => ?_)
    · refine P_iload2 (pc' := 30) dX9_sumOf_29 rfl ?_
      refine P_iret dX9_sumOf_30 ?_
      exact ⟨rfl, rfl, rfl⟩
    · exact absurd (by rw [hz]; exact Int32.le_refl _) h11
  | succ q ih =>
    intro b hb
    refine P_iload3 (pc' := 5) dX9_sumOf_4 rfl ?_
    refine P_aload0 (pc' := 6) dX9_sumOf_5 rfl ?_
    refine P_getr (pc' := 9) dX9_sumOf_6 rfl fl_X9_9 rfl (l_55 hsh) (t_55 hsh) (q_55_0 hsh) ?_
    refine P_iconst (pc' := 10) dX9_sumOf_9 rfl (v := 1) rfl ?_
    refine P_iald (pc' := 11) dX9_sumOf_10 rfl (l_56 hsh) (t_56 hsh) (j := 1) rfl (by decide) (by decide) ?_
    refine P_icmp_ge (tgt := 29) (pc' := 14) dX9_sumOf_11 rfl rfl (fun h11 => ?_) (fun h11 => ?_)
    · exact absurd h11 (by rw [hz]; exact nI_ge (by omega) (by omega))
    · refine P_iload2 (pc' := 15) dX9_sumOf_14 rfl ?_
      refine P_aload0 (pc' := 16) dX9_sumOf_15 rfl ?_
      refine P_iload3 (pc' := 17) dX9_sumOf_16 rfl ?_
      refine P_iload1 (pc' := 18) dX9_sumOf_17 rfl ?_
      refine P_callV2 (pc' := 21) dX9_sumOf_18 rfl lk_X9_89 (l_55 hsh) (t_55 hsh) (c_X9_of (d := 0) hsh (by omega) hk) (by omega) (Nat.le_of_ble_eq_true rfl) (fun r S' I' hq => ?_)
      obtain ⟨rfl, rfl, rfl⟩ := hq
      refine P_iadd (pc' := 22) dX9_sumOf_21 rfl ?_
      refine P_as (y := aSum (aR I) (16 + k) (b + 1)) (by rw [aR_rd I (by omega), show 16 + 5 * b + k = 16 + k + 5 * b by omega]; rfl) ?_
      refine P_istore2 (pc' := 23) dX9_sumOf_22 rfl (by decide) rfl ?_
      refine P_iinc3 (pc' := 26) dX9_sumOf_23 rfl (nI_1 b) (by decide) rfl ?_
      refine P_goto (tgt := 4) dX9_sumOf_26 rfl ?_
      exact ih (b + 1) (by omega)
theorem c_X9_sumOf {G : GX} {S : Shp} {I : Mem} {d n k : Nat} (hsh : SHP S) (hz : I 56 1 = nI n) (hn : n ≤ 9) (hk : k < 5) (hd : 1 ≤ d) : PM G yX9_sumOf cX9_sumOf 4 (some .int) d 0 0 [.ref 55, .int (nI k)] S I (Rm S I (aSum (aR I) (16 + k) n)) := by
  refine PM.of (ls := [some (.ref 55), some (.int (nI k)), none, none]) (by decide) rfl (Nat.le_of_ble_eq_true rfl) rfl ?_
  show PW G RX9 "sumOf" _ _ _ _ _ _ _ _ _ _ _ _
  refine P_iconst (pc' := 1) dX9_sumOf_0 rfl (v := 0) rfl ?_
  refine P_istore2 (pc' := 2) dX9_sumOf_1 rfl (by decide) rfl ?_
  refine P_iconst (pc' := 3) dX9_sumOf_2 rfl (v := 0) rfl ?_
  refine P_istore3 (pc' := 4) dX9_sumOf_3 rfl (by decide) rfl ?_
  exact lp_X9_sumOf hsh hz hn hk hd n 0 (by omega)
theorem lp_X9_isOwing {G : GX} {S : Shp} {I : Mem} {d n : Nat} {v : Int32} (hsh : SHP S) (hz : I 56 1 = nI n) (hn : n ≤ 9) (hd : 1 ≤ d) : ∀ (k b : Nat), b + k = n → aDebt (aR I) k b = v → PW G RX9 "isOwing" cX9_isOwing 2 (some .boolean) d 0 0 (Rm S I v) 2 [some (.ref 55), some (.int (nI b))] [] S I := by
  intro k
  induction k with
  | zero =>
    intro b hb hv
    have hb : b = n := by omega
    subst hb
    refine P_iload1 (pc' := 3) dX9_isOwing_2 rfl ?_
    refine P_aload0 (pc' := 4) dX9_isOwing_3 rfl ?_
    refine P_getr (pc' := 7) dX9_isOwing_4 rfl fl_X9_9 rfl (l_55 hsh) (t_55 hsh) (q_55_0 hsh) ?_
    refine P_iconst (pc' := 8) dX9_isOwing_7 rfl (v := 1) rfl ?_
    refine P_iald (pc' := 9) dX9_isOwing_8 rfl (l_56 hsh) (t_56 hsh) (j := 1) rfl (by decide) (by decide) ?_
    refine P_icmp_ge (tgt := 29) (pc' := 12) dX9_isOwing_9 rfl rfl (fun h9 => ?_) (fun h9 => ?_)
    · refine P_iconst (pc' := 30) dX9_isOwing_29 rfl (v := 0) rfl ?_
      refine P_zret dX9_isOwing_30 (by first | exact Or.inl rfl | exact Or.inr rfl) ?_
      exact ⟨by rw [← hv]; rfl, rfl, rfl⟩
    · exact absurd (by rw [hz]; exact Int32.le_refl _) h9
  | succ k ih =>
    intro b hb hv
    have e3 : I 56 (16 + 5 * b + 3) = aR I (19 + 5 * b) := by rw [aR_rd I (by omega), show 16 + 5 * b + 3 = 19 + 5 * b by omega]
    rw [aDebt_s, ← e3] at hv
    refine P_iload1 (pc' := 3) dX9_isOwing_2 rfl ?_
    refine P_aload0 (pc' := 4) dX9_isOwing_3 rfl ?_
    refine P_getr (pc' := 7) dX9_isOwing_4 rfl fl_X9_9 rfl (l_55 hsh) (t_55 hsh) (q_55_0 hsh) ?_
    refine P_iconst (pc' := 8) dX9_isOwing_7 rfl (v := 1) rfl ?_
    refine P_iald (pc' := 9) dX9_isOwing_8 rfl (l_56 hsh) (t_56 hsh) (j := 1) rfl (by decide) (by decide) ?_
    refine P_icmp_ge (tgt := 29) (pc' := 12) dX9_isOwing_9 rfl rfl (fun h9 => ?_) (fun h9 => ?_)
    · exact absurd h9 (by rw [hz]; exact nI_ge (by omega) (by omega))
    · refine P_aload0 (pc' := 13) dX9_isOwing_12 rfl ?_
      refine P_iload1 (pc' := 14) dX9_isOwing_13 rfl ?_
      refine P_iconst (pc' := 15) dX9_isOwing_14 rfl (v := 3) rfl ?_
      refine P_callV2 (pc' := 18) dX9_isOwing_15 rfl lk_X9_89 (l_55 hsh) (t_55 hsh) (c_X9_of (k := 3) (d := 0) hsh (by omega) (by decide)) (by omega) (Nat.le_of_ble_eq_true rfl) (fun r S' I' hq => ?_); obtain ⟨rfl, rfl, rfl⟩ := hq
      refine P_if_ge (tgt := 23) (pc' := 21) dX9_isOwing_18 rfl rfl (fun h18 => ?_) (fun h18 => ?_)
      · refine P_iinc1 (pc' := 26) dX9_isOwing_23 rfl (nI_1 b) (by decide) rfl ?_
        refine P_goto (tgt := 2) dX9_isOwing_26 rfl ?_
        rw [if_neg (Int32.not_lt.mpr h18)] at hv
        exact ih (b + 1) (by omega) hv
      · refine P_iconst (pc' := 22) dX9_isOwing_21 rfl (v := 1) rfl ?_
        refine P_zret dX9_isOwing_22 (by first | exact Or.inl rfl | exact Or.inr rfl) ?_
        rw [if_pos (Int32.not_le.mp h18)] at hv
        exact ⟨by rw [← hv], rfl, rfl⟩
theorem c_X9_isOwing {G : GX} {S : Shp} {I : Mem} {d n : Nat} (hsh : SHP S) (hz : I 56 1 = nI n) (hn : n ≤ 9) (hd : 1 ≤ d) : PM G yX9_isOwing cX9_isOwing 2 (some .boolean) d 0 0 [.ref 55] S I (Rm S I (aDebt (aR I) n 0)) := by
  refine PM.of (ls := [some (.ref 55), none]) (by decide) rfl (Nat.le_of_ble_eq_true rfl) rfl ?_
  show PW G RX9 "isOwing" _ _ _ _ _ _ _ _ _ _ _ _
  refine P_iconst (pc' := 1) dX9_isOwing_0 rfl (v := 0) rfl ?_
  refine P_istore1 (pc' := 2) dX9_isOwing_1 rfl (by decide) rfl ?_
  exact lp_X9_isOwing hsh hz hn hd n 0 (by omega) rfl
theorem i_or0 (v : Int32) : v ||| 0 = v := by
  apply Int32.toBitVec_inj.mp
  simp
theorem lp_X9_taken {G : GX} {S : Shp} {I : Mem} {d n : Nat} {y : Int32} (hsh : SHP S) (hz : I 56 1 = nI n) (hn : n ≤ 9) (hd : 1 ≤ d) : ∀ (k b : Nat) (v : Int32), b + k = n → aTak (aR I) k b v = y → PW G RX9 "taken" cX9_taken 3 (some .int) d 0 0 (Rm S I y) 4 [some (.ref 55), some (.int v), some (.int (nI b))] [] S I := by
  intro k
  induction k with
  | zero =>
    intro b v hb hv
    have hb : b = n := by omega
    subst hb
    refine P_iload2 (pc' := 5) dX9_taken_4 rfl ?_
    refine P_aload0 (pc' := 6) dX9_taken_5 rfl ?_
    refine P_getr (pc' := 9) dX9_taken_6 rfl fl_X9_9 rfl (l_55 hsh) (t_55 hsh) (q_55_0 hsh) ?_
    refine P_iconst (pc' := 10) dX9_taken_9 rfl (v := 1) rfl ?_
    refine P_iald (pc' := 11) dX9_taken_10 rfl (l_56 hsh) (t_56 hsh) (j := 1) rfl (by decide) (by decide) ?_
    refine P_icmp_ge (tgt := 46) (pc' := 14) dX9_taken_11 rfl rfl (fun h11 => ?_) (fun h11 => ?_)
    · refine P_iload1 (pc' := 47) dX9_taken_46 rfl ?_
      refine P_iret dX9_taken_47 ?_
      exact ⟨by rw [← hv]; rfl, rfl, rfl⟩
    · exact absurd (by rw [hz]; exact Int32.le_refl _) h11
  | succ k ih =>
    intro b v hb hv
    have e3 : I 56 (16 + 5 * b + 1) = aR I (17 + 5 * b) := by rw [aR_rd I (by omega), show 16 + 5 * b + 1 = 17 + 5 * b by omega]
    rw [aTak_s, ← e3] at hv
    refine P_iload2 (pc' := 5) dX9_taken_4 rfl ?_
    refine P_aload0 (pc' := 6) dX9_taken_5 rfl ?_
    refine P_getr (pc' := 9) dX9_taken_6 rfl fl_X9_9 rfl (l_55 hsh) (t_55 hsh) (q_55_0 hsh) ?_
    refine P_iconst (pc' := 10) dX9_taken_9 rfl (v := 1) rfl ?_
    refine P_iald (pc' := 11) dX9_taken_10 rfl (l_56 hsh) (t_56 hsh) (j := 1) rfl (by decide) (by decide) ?_
    refine P_icmp_ge (tgt := 46) (pc' := 14) dX9_taken_11 rfl rfl (fun h11 => ?_) (fun h11 => ?_)
    · exact absurd h11 (by rw [hz]; exact nI_ge (by omega) (by omega))
    · refine P_iload1 (pc' := 15) dX9_taken_14 rfl ?_
      refine P_aload0 (pc' := 16) dX9_taken_15 rfl ?_
      refine P_iload2 (pc' := 17) dX9_taken_16 rfl ?_
      refine P_iconst (pc' := 18) dX9_taken_17 rfl (v := 1) rfl ?_
      refine P_callV2 (pc' := 21) dX9_taken_18 rfl lk_X9_89 (l_55 hsh) (t_55 hsh) (c_X9_of (k := 1) (d := 0) hsh (by omega) (by decide)) (by omega) (Nat.le_of_ble_eq_true rfl) (fun r S' I' hq => ?_); obtain ⟨rfl, rfl, rfl⟩ := hq
      refine P_bipush (pc' := 23) dX9_taken_21 rfl (v := 8) rfl ?_
      refine P_icmp_ne (tgt := 30) (pc' := 26) dX9_taken_23 rfl rfl (fun h23 => ?_) (fun h23 => ?_)
      · refine P_iconst (pc' := 31) dX9_taken_30 rfl (v := 1) rfl ?_
        refine P_aload0 (pc' := 32) dX9_taken_31 rfl ?_
        refine P_iload2 (pc' := 33) dX9_taken_32 rfl ?_
        refine P_iconst (pc' := 34) dX9_taken_33 rfl (v := 1) rfl ?_
        refine P_callV2 (pc' := 37) dX9_taken_34 rfl lk_X9_89 (l_55 hsh) (t_55 hsh) (c_X9_of (k := 1) (d := 0) hsh (by omega) (by decide)) (by omega) (Nat.le_of_ble_eq_true rfl) (fun r S' I' hq => ?_); obtain ⟨rfl, rfl, rfl⟩ := hq
        refine P_ishl (pc' := 38) dX9_taken_37 rfl ?_
        refine P_ior (pc' := 39) dX9_taken_38 rfl ?_
        refine P_istore1 (pc' := 40) dX9_taken_39 rfl (by decide) rfl ?_
        refine P_iinc2 (pc' := 43) dX9_taken_40 rfl (nI_1 b) (by decide) rfl ?_
        refine P_goto (tgt := 4) dX9_taken_43 rfl ?_
        first
          | (rw [if_pos h23] at hv; rw [i_or0]; exact ih (b + 1) _ (by omega) hv)
          | (rw [if_neg h23] at hv; exact ih (b + 1) _ (by omega) hv)
      · refine P_iconst (pc' := 27) dX9_taken_26 rfl (v := 0) rfl ?_
        refine P_goto (tgt := 38) dX9_taken_27 rfl ?_
        refine P_ior (pc' := 39) dX9_taken_38 rfl ?_
        refine P_istore1 (pc' := 40) dX9_taken_39 rfl (by decide) rfl ?_
        refine P_iinc2 (pc' := 43) dX9_taken_40 rfl (nI_1 b) (by decide) rfl ?_
        refine P_goto (tgt := 4) dX9_taken_43 rfl ?_
        first
          | (rw [if_pos h23] at hv; rw [i_or0]; exact ih (b + 1) _ (by omega) hv)
          | (rw [if_neg h23] at hv; exact ih (b + 1) _ (by omega) hv)
theorem c_X9_taken {G : GX} {S : Shp} {I : Mem} {d n : Nat} (hsh : SHP S) (hz : I 56 1 = nI n) (hn : n ≤ 9) (hd : 1 ≤ d) : PM G yX9_taken cX9_taken 3 (some .int) d 0 0 [.ref 55] S I (Rm S I (aTak (aR I) n 0 0)) := by
  refine PM.of (ls := [some (.ref 55), none, none]) (by decide) rfl (Nat.le_of_ble_eq_true rfl) rfl ?_
  show PW G RX9 "taken" _ _ _ _ _ _ _ _ _ _ _ _
  refine P_iconst (pc' := 1) dX9_taken_0 rfl (v := 0) rfl ?_
  refine P_istore1 (pc' := 2) dX9_taken_1 rfl (by decide) rfl ?_
  refine P_iconst (pc' := 3) dX9_taken_2 rfl (v := 0) rfl ?_
  refine P_istore2 (pc' := 4) dX9_taken_3 rfl (by decide) rfl ?_
  exact lp_X9_taken hsh hz hn hd n 0 0 (by omega) rfl
/-- the reference's test of two, against aOff -/
theorem off_1 {A : Nat → Int32} {i b ci cb : Nat} (hi : A (17 + 5 * i) = nI ci) (hb : A (17 + 5 * b) = nI cb) (h1 : ci ≤ 8) (h2 : cb ≤ 8) (h8 : ¬ nI cb = 8) : aOff A i b = if nI ci = 8 then 0 else if nI ci - nI cb = 0 then 1 else if A (16 + 5 * i) = A (16 + 5 * b) ∧ wi (nI ci - nI cb) (-1) 1 = 1 then 1 else 0 := by
  unfold aOff
  rw [hi, hb, if_neg h8]
  have key1 : ∀ ci, ci < 9 → ∀ cb, cb < 9 → ((if (0 : Int32) ≤ nI ci - nI cb then nI ci - nI cb else 0 - (nI ci - nI cb)) = 0 ↔ nI ci - nI cb = 0) := by decide +kernel
  have key2 : ∀ ci, ci < 9 → ∀ cb, cb < 9 → ¬ nI ci - nI cb = 0 → ((if (0 : Int32) ≤ nI ci - nI cb then nI ci - nI cb else 0 - (nI ci - nI cb)) = 1 ↔ wi (nI ci - nI cb) (-1) 1 = 1) := by decide +kernel
  by_cases q8 : nI ci = 8
  · rw [if_pos q8, if_pos q8]
  · rw [if_neg q8, if_neg q8]
    have k1 := key1 ci (by omega) cb (by omega)
    have k2 := key2 ci (by omega) cb (by omega)
    by_cases q0 : nI ci - nI cb = 0
    · rw [if_pos (k1.mpr q0), if_pos q0]
    · rw [if_neg (fun z => q0 (k1.mp z)), if_neg q0]
      by_cases q1 : wi (nI ci - nI cb) (-1) 1 = 1
      · rw [if_pos ((k2 q0).mpr q1)]
        by_cases qk : A (16 + 5 * i) = A (16 + 5 * b)
        · rw [if_pos qk, if_pos (And.intro qk q1)]
        · rw [if_neg qk, if_neg (show ¬ (A (16 + 5 * i) = A (16 + 5 * b) ∧ wi (nI ci - nI cb) (-1) 1 = 1) from fun z => qk z.1)]
      · rw [if_neg (fun z => q1 ((k2 q0).mp z)), if_neg (show ¬ (A (16 + 5 * i) = A (16 + 5 * b) ∧ wi (nI ci - nI cb) (-1) 1 = 1) from fun z => q1 z.2)]
theorem aAg_home {A : Nat → Int32} {b : Nat} (h : A (17 + 5 * b) = 8) : ∀ k i, aAg A b k i = 0 := by
  intro k
  induction k with
  | zero => intro i; rfl
  | succ k ih =>
    intro i
    rw [aAg_s, if_pos, ih]
    unfold aOff
    rw [h]
    split
    · rfl
    · rfl
theorem wi_n1 {v lo hi : Int32} (h : wi v lo hi = 0) : ¬ wi v lo hi = 1 := by rw [h]; decide
theorem wi_y1 {v lo hi : Int32} (h : ¬ wi v lo hi = 0) : wi v lo hi = 1 := (wi_01 v lo hi).resolve_left h
theorem lp_X9_isAgainst {G : GX} {S : Shp} {I : Mem} {d n b : Nat} {v : Int32} (hsh : SHP S) (hw : WA (aR I) n) (hb : b < n) (hd : 1 ≤ d) : ∀ (k i : Nat) (x3 x4 : Option Value), i + k = b → lc1 x3 = true → aAg (aR I) b k i = v → PW G RX9 "isAgainst" cX9_isAgainst 5 (some .boolean) d 0 0 (Rm S I v) 2 [some (.ref 55), some (.int (nI b)), some (.int (nI i)), x3, x4] [] S I := by
  intro k
  have hn := hw.2.1
  have b9 : b < 9 := by omega
  obtain ⟨-, ⟨cb, cb8, hcb⟩, -⟩ := hw.2.2.2.2 b b9
  have eb : I 56 (16 + 5 * b + 1) = nI cb := by rw [aR_rd I (by omega), show 16 + 5 * b + 1 = 17 + 5 * b by omega]; exact hcb
  have ebk : I 56 (16 + 5 * b + 0) = aR I (16 + 5 * b) := by rw [aR_rd I (by omega)]; rfl
  induction k with
  | zero =>
    intro i x3 x4 hi hx3 hv
    have hi : i = b := by omega
    subst hi
    refine P_iload2 (pc' := 3) dX9_isAgainst_2 rfl ?_
    refine P_iload1 (pc' := 4) dX9_isAgainst_3 rfl ?_
    refine P_icmp_ge (tgt := 91) (pc' := 7) dX9_isAgainst_4 rfl rfl (fun h4 => ?_) (fun h4 => ?_)
    · refine P_iconst (pc' := 92) dX9_isAgainst_91 rfl (v := 0) rfl ?_
      refine P_zret dX9_isAgainst_92 (by first | exact Or.inl rfl | exact Or.inr rfl) ?_
      exact ⟨by rw [← hv]; rfl, rfl, rfl⟩
    · exact absurd (Int32.le_refl _) h4
  | succ k ih =>
    intro i x3 x4 hi hx3 hv
    have i9 : i < 9 := by omega
    obtain ⟨-, ⟨ci, ci8, hci⟩, -⟩ := hw.2.2.2.2 i i9
    have ei : I 56 (16 + 5 * i + 1) = nI ci := by rw [aR_rd I (by omega), show 16 + 5 * i + 1 = 17 + 5 * i by omega]; exact hci
    have eik : I 56 (16 + 5 * i + 0) = aR I (16 + 5 * i) := by rw [aR_rd I (by omega)]; rfl
    refine P_iload2 (pc' := 3) dX9_isAgainst_2 rfl ?_
    refine P_iload1 (pc' := 4) dX9_isAgainst_3 rfl ?_
    refine P_icmp_ge (tgt := 91) (pc' := 7) dX9_isAgainst_4 rfl rfl (fun h4 => ?_) (fun h4 => ?_)
    · exact absurd h4 (nI_ge (by omega) (by omega))
    · refine P_aload0 (pc' := 8) dX9_isAgainst_7 rfl ?_
      refine P_iload1 (pc' := 9) dX9_isAgainst_8 rfl ?_
      refine P_iconst (pc' := 10) dX9_isAgainst_9 rfl (v := 1) rfl ?_
      refine P_callV2 (pc' := 13) dX9_isAgainst_10 rfl lk_X9_89 (l_55 hsh) (t_55 hsh) (c_X9_of (k := 1) (d := 0) hsh b9 (by decide)) (by omega) (Nat.le_of_ble_eq_true rfl) (fun r S' I' hq => ?_); obtain ⟨rfl, rfl, rfl⟩ := hq
      refine P_as eb ?_
      refine P_bipush (pc' := 15) dX9_isAgainst_13 rfl (v := 8) rfl ?_
      refine P_icmp_eq (tgt := 91) (pc' := 18) dX9_isAgainst_15 rfl rfl (fun h15 => ?_) (fun h15 => ?_)
      · refine P_iconst (pc' := 92) dX9_isAgainst_91 rfl (v := 0) rfl ?_
        refine P_zret dX9_isAgainst_92 (by first | exact Or.inl rfl | exact Or.inr rfl) ?_
        rw [aAg_home (by rw [hcb]; exact h15)] at hv
        exact ⟨by rw [← hv], rfl, rfl⟩
      · have hv2 := hv
        rw [aAg_s, off_1 hci hcb ci8 cb8 h15] at hv2
        refine P_aload0 (pc' := 19) dX9_isAgainst_18 rfl ?_
        refine P_iload2 (pc' := 20) dX9_isAgainst_19 rfl ?_
        refine P_iconst (pc' := 21) dX9_isAgainst_20 rfl (v := 1) rfl ?_
        refine P_callV2 (pc' := 24) dX9_isAgainst_21 rfl lk_X9_89 (l_55 hsh) (t_55 hsh) (c_X9_of (k := 1) (d := 0) hsh i9 (by decide)) (by omega) (Nat.le_of_ble_eq_true rfl) (fun r S' I' hq => ?_); obtain ⟨rfl, rfl, rfl⟩ := hq
        refine P_as ei ?_
        refine P_aload0 (pc' := 25) dX9_isAgainst_24 rfl ?_
        refine P_iload1 (pc' := 26) dX9_isAgainst_25 rfl ?_
        refine P_iconst (pc' := 27) dX9_isAgainst_26 rfl (v := 1) rfl ?_
        refine P_callV2 (pc' := 30) dX9_isAgainst_27 rfl lk_X9_89 (l_55 hsh) (t_55 hsh) (c_X9_of (k := 1) (d := 0) hsh b9 (by decide)) (by omega) (Nat.le_of_ble_eq_true rfl) (fun r S' I' hq => ?_); obtain ⟨rfl, rfl, rfl⟩ := hq
        refine P_as eb ?_
        refine P_isub (pc' := 31) dX9_isAgainst_30 rfl ?_
        refine P_istore3 (pc' := 32) dX9_isAgainst_31 rfl (by decide) rfl ?_
        refine P_aload0 (pc' := 33) dX9_isAgainst_32 rfl ?_
        refine P_iload2 (pc' := 34) dX9_isAgainst_33 rfl ?_
        refine P_iconst (pc' := 35) dX9_isAgainst_34 rfl (v := 0) rfl ?_
        refine P_callV2 (pc' := 38) dX9_isAgainst_35 rfl lk_X9_89 (l_55 hsh) (t_55 hsh) (c_X9_of (k := 0) (d := 0) hsh i9 (by decide)) (by omega) (Nat.le_of_ble_eq_true rfl) (fun r S' I' hq => ?_); obtain ⟨rfl, rfl, rfl⟩ := hq
        refine P_as eik ?_
        refine P_aload0 (pc' := 39) dX9_isAgainst_38 rfl ?_
        refine P_iload1 (pc' := 40) dX9_isAgainst_39 rfl ?_
        refine P_iconst (pc' := 41) dX9_isAgainst_40 rfl (v := 0) rfl ?_
        refine P_callV2 (pc' := 44) dX9_isAgainst_41 rfl lk_X9_89 (l_55 hsh) (t_55 hsh) (c_X9_of (k := 0) (d := 0) hsh b9 (by decide)) (by omega) (Nat.le_of_ble_eq_true rfl) (fun r S' I' hq => ?_); obtain ⟨rfl, rfl, rfl⟩ := hq
        refine P_as ebk ?_
        refine P_icmp_ne (tgt := 60) (pc' := 47) dX9_isAgainst_44 rfl rfl (fun h44 => ?_) (fun h44 => ?_)
        · refine P_iconst (pc' := 61) dX9_isAgainst_60 rfl (v := 0) rfl ?_
          refine P_istore4 (pc' := 63) dX9_isAgainst_61 rfl (by decide) rfl ?_
          refine P_aload0 (pc' := 64) dX9_isAgainst_63 rfl ?_
          refine P_iload2 (pc' := 65) dX9_isAgainst_64 rfl ?_
          refine P_iconst (pc' := 66) dX9_isAgainst_65 rfl (v := 1) rfl ?_
          refine P_callV2 (pc' := 69) dX9_isAgainst_66 rfl lk_X9_89 (l_55 hsh) (t_55 hsh) (c_X9_of (k := 1) (d := 0) hsh i9 (by decide)) (by omega) (Nat.le_of_ble_eq_true rfl) (fun r S' I' hq => ?_); obtain ⟨rfl, rfl, rfl⟩ := hq
          refine P_as ei ?_
          refine P_bipush (pc' := 71) dX9_isAgainst_69 rfl (v := 8) rfl ?_
          refine P_icmp_eq (tgt := 85) (pc' := 74) dX9_isAgainst_71 rfl rfl (fun h71 => ?_) (fun h71 => ?_)
          · refine P_iinc2 (pc' := 88) dX9_isAgainst_85 rfl (nI_1 i) (by decide) rfl ?_
            refine P_goto (tgt := 2) dX9_isAgainst_88 rfl ?_
            first
              | (rw [if_pos h71, if_pos rfl] at hv2; exact ih (i + 1) _ _ (by omega) rfl hv2)
              | (rw [if_neg h71, if_neg h75, if_neg (show ¬ (aR I (16 + 5 * i) = aR I (16 + 5 * b) ∧ wi (nI ci - nI cb) (-1) 1 = 1) from fun z => h44 z.1), if_pos rfl] at hv2; exact ih (i + 1) _ _ (by omega) rfl hv2)
              | (rw [if_neg h71, if_neg h75, if_neg (show ¬ (aR I (16 + 5 * i) = aR I (16 + 5 * b) ∧ wi (nI ci - nI cb) (-1) 1 = 1) from fun z => wi_n1 h53 z.2), if_pos rfl] at hv2; exact ih (i + 1) _ _ (by omega) rfl hv2)
              | exact absurd h80 (by decide)
          · refine P_iload3 (pc' := 75) dX9_isAgainst_74 rfl ?_
            refine P_if_eq (tgt := 83) (pc' := 78) dX9_isAgainst_75 rfl rfl (fun h75 => ?_) (fun h75 => ?_)
            · refine P_iconst (pc' := 84) dX9_isAgainst_83 rfl (v := 1) rfl ?_
              refine P_zret dX9_isAgainst_84 (by first | exact Or.inl rfl | exact Or.inr rfl) ?_
              first
                | (rw [if_neg h71, if_pos h75, if_neg (by decide)] at hv2; exact ⟨by rw [← hv2], rfl, rfl⟩)
                | (rw [if_neg h71, if_neg h75, if_pos (And.intro h44 (wi_y1 h53)), if_neg (by decide)] at hv2; exact ⟨by rw [← hv2], rfl, rfl⟩)
                | exact absurd rfl h80
            · refine P_iload4 (pc' := 80) dX9_isAgainst_78 rfl ?_
              refine P_if_eq (tgt := 85) (pc' := 83) dX9_isAgainst_80 rfl rfl (fun h80 => ?_) (fun h80 => ?_)
              · refine P_iinc2 (pc' := 88) dX9_isAgainst_85 rfl (nI_1 i) (by decide) rfl ?_
                refine P_goto (tgt := 2) dX9_isAgainst_88 rfl ?_
                first
                  | (rw [if_pos h71, if_pos rfl] at hv2; exact ih (i + 1) _ _ (by omega) rfl hv2)
                  | (rw [if_neg h71, if_neg h75, if_neg (show ¬ (aR I (16 + 5 * i) = aR I (16 + 5 * b) ∧ wi (nI ci - nI cb) (-1) 1 = 1) from fun z => h44 z.1), if_pos rfl] at hv2; exact ih (i + 1) _ _ (by omega) rfl hv2)
                  | (rw [if_neg h71, if_neg h75, if_neg (show ¬ (aR I (16 + 5 * i) = aR I (16 + 5 * b) ∧ wi (nI ci - nI cb) (-1) 1 = 1) from fun z => wi_n1 h53 z.2), if_pos rfl] at hv2; exact ih (i + 1) _ _ (by omega) rfl hv2)
                  | exact absurd h80 (by decide)
              · refine P_iconst (pc' := 84) dX9_isAgainst_83 rfl (v := 1) rfl ?_
                refine P_zret dX9_isAgainst_84 (by first | exact Or.inl rfl | exact Or.inr rfl) ?_
                first
                  | (rw [if_neg h71, if_pos h75, if_neg (by decide)] at hv2; exact ⟨by rw [← hv2], rfl, rfl⟩)
                  | (rw [if_neg h71, if_neg h75, if_pos (And.intro h44 (wi_y1 h53)), if_neg (by decide)] at hv2; exact ⟨by rw [← hv2], rfl, rfl⟩)
                  | exact absurd rfl h80
        · refine P_iload3 (pc' := 48) dX9_isAgainst_47 rfl ?_
          refine P_iconst (pc' := 49) dX9_isAgainst_48 rfl (v := (-1)) rfl ?_
          refine P_iconst (pc' := 50) dX9_isAgainst_49 rfl (v := 1) rfl ?_
          refine P_callS3 (pc' := 53) dX9_isAgainst_50 rfl lk_X9_75 (c_X9_in (d := 0) _ (-1) 1) (by omega) (Nat.le_of_ble_eq_true rfl) (fun r S' I' hq => ?_)
          obtain ⟨rfl, rfl, rfl⟩ := hq
          refine P_if_eq (tgt := 60) (pc' := 56) dX9_isAgainst_53 rfl rfl (fun h53 => ?_) (fun h53 => ?_)
          · refine P_iconst (pc' := 61) dX9_isAgainst_60 rfl (v := 0) rfl ?_
            refine P_istore4 (pc' := 63) dX9_isAgainst_61 rfl (by decide) rfl ?_
            refine P_aload0 (pc' := 64) dX9_isAgainst_63 rfl ?_
            refine P_iload2 (pc' := 65) dX9_isAgainst_64 rfl ?_
            refine P_iconst (pc' := 66) dX9_isAgainst_65 rfl (v := 1) rfl ?_
            refine P_callV2 (pc' := 69) dX9_isAgainst_66 rfl lk_X9_89 (l_55 hsh) (t_55 hsh) (c_X9_of (k := 1) (d := 0) hsh i9 (by decide)) (by omega) (Nat.le_of_ble_eq_true rfl) (fun r S' I' hq => ?_); obtain ⟨rfl, rfl, rfl⟩ := hq
            refine P_as ei ?_
            refine P_bipush (pc' := 71) dX9_isAgainst_69 rfl (v := 8) rfl ?_
            refine P_icmp_eq (tgt := 85) (pc' := 74) dX9_isAgainst_71 rfl rfl (fun h71 => ?_) (fun h71 => ?_)
            · refine P_iinc2 (pc' := 88) dX9_isAgainst_85 rfl (nI_1 i) (by decide) rfl ?_
              refine P_goto (tgt := 2) dX9_isAgainst_88 rfl ?_
              first
                | (rw [if_pos h71, if_pos rfl] at hv2; exact ih (i + 1) _ _ (by omega) rfl hv2)
                | (rw [if_neg h71, if_neg h75, if_neg (show ¬ (aR I (16 + 5 * i) = aR I (16 + 5 * b) ∧ wi (nI ci - nI cb) (-1) 1 = 1) from fun z => h44 z.1), if_pos rfl] at hv2; exact ih (i + 1) _ _ (by omega) rfl hv2)
                | (rw [if_neg h71, if_neg h75, if_neg (show ¬ (aR I (16 + 5 * i) = aR I (16 + 5 * b) ∧ wi (nI ci - nI cb) (-1) 1 = 1) from fun z => wi_n1 h53 z.2), if_pos rfl] at hv2; exact ih (i + 1) _ _ (by omega) rfl hv2)
                | exact absurd h80 (by decide)
            · refine P_iload3 (pc' := 75) dX9_isAgainst_74 rfl ?_
              refine P_if_eq (tgt := 83) (pc' := 78) dX9_isAgainst_75 rfl rfl (fun h75 => ?_) (fun h75 => ?_)
              · refine P_iconst (pc' := 84) dX9_isAgainst_83 rfl (v := 1) rfl ?_
                refine P_zret dX9_isAgainst_84 (by first | exact Or.inl rfl | exact Or.inr rfl) ?_
                first
                  | (rw [if_neg h71, if_pos h75, if_neg (by decide)] at hv2; exact ⟨by rw [← hv2], rfl, rfl⟩)
                  | (rw [if_neg h71, if_neg h75, if_pos (And.intro h44 (wi_y1 h53)), if_neg (by decide)] at hv2; exact ⟨by rw [← hv2], rfl, rfl⟩)
                  | exact absurd rfl h80
              · refine P_iload4 (pc' := 80) dX9_isAgainst_78 rfl ?_
                refine P_if_eq (tgt := 85) (pc' := 83) dX9_isAgainst_80 rfl rfl (fun h80 => ?_) (fun h80 => ?_)
                · refine P_iinc2 (pc' := 88) dX9_isAgainst_85 rfl (nI_1 i) (by decide) rfl ?_
                  refine P_goto (tgt := 2) dX9_isAgainst_88 rfl ?_
                  first
                    | (rw [if_pos h71, if_pos rfl] at hv2; exact ih (i + 1) _ _ (by omega) rfl hv2)
                    | (rw [if_neg h71, if_neg h75, if_neg (show ¬ (aR I (16 + 5 * i) = aR I (16 + 5 * b) ∧ wi (nI ci - nI cb) (-1) 1 = 1) from fun z => h44 z.1), if_pos rfl] at hv2; exact ih (i + 1) _ _ (by omega) rfl hv2)
                    | (rw [if_neg h71, if_neg h75, if_neg (show ¬ (aR I (16 + 5 * i) = aR I (16 + 5 * b) ∧ wi (nI ci - nI cb) (-1) 1 = 1) from fun z => wi_n1 h53 z.2), if_pos rfl] at hv2; exact ih (i + 1) _ _ (by omega) rfl hv2)
                    | exact absurd h80 (by decide)
                · refine P_iconst (pc' := 84) dX9_isAgainst_83 rfl (v := 1) rfl ?_
                  refine P_zret dX9_isAgainst_84 (by first | exact Or.inl rfl | exact Or.inr rfl) ?_
                  first
                    | (rw [if_neg h71, if_pos h75, if_neg (by decide)] at hv2; exact ⟨by rw [← hv2], rfl, rfl⟩)
                    | (rw [if_neg h71, if_neg h75, if_pos (And.intro h44 (wi_y1 h53)), if_neg (by decide)] at hv2; exact ⟨by rw [← hv2], rfl, rfl⟩)
                    | exact absurd rfl h80
          · refine P_iconst (pc' := 57) dX9_isAgainst_56 rfl (v := 1) rfl ?_
            refine P_goto (tgt := 61) dX9_isAgainst_57 rfl ?_
            refine P_istore4 (pc' := 63) dX9_isAgainst_61 rfl (by decide) rfl ?_
            refine P_aload0 (pc' := 64) dX9_isAgainst_63 rfl ?_
            refine P_iload2 (pc' := 65) dX9_isAgainst_64 rfl ?_
            refine P_iconst (pc' := 66) dX9_isAgainst_65 rfl (v := 1) rfl ?_
            refine P_callV2 (pc' := 69) dX9_isAgainst_66 rfl lk_X9_89 (l_55 hsh) (t_55 hsh) (c_X9_of (k := 1) (d := 0) hsh i9 (by decide)) (by omega) (Nat.le_of_ble_eq_true rfl) (fun r S' I' hq => ?_); obtain ⟨rfl, rfl, rfl⟩ := hq
            refine P_as ei ?_
            refine P_bipush (pc' := 71) dX9_isAgainst_69 rfl (v := 8) rfl ?_
            refine P_icmp_eq (tgt := 85) (pc' := 74) dX9_isAgainst_71 rfl rfl (fun h71 => ?_) (fun h71 => ?_)
            · refine P_iinc2 (pc' := 88) dX9_isAgainst_85 rfl (nI_1 i) (by decide) rfl ?_
              refine P_goto (tgt := 2) dX9_isAgainst_88 rfl ?_
              first
                | (rw [if_pos h71, if_pos rfl] at hv2; exact ih (i + 1) _ _ (by omega) rfl hv2)
                | (rw [if_neg h71, if_neg h75, if_neg (show ¬ (aR I (16 + 5 * i) = aR I (16 + 5 * b) ∧ wi (nI ci - nI cb) (-1) 1 = 1) from fun z => h44 z.1), if_pos rfl] at hv2; exact ih (i + 1) _ _ (by omega) rfl hv2)
                | (rw [if_neg h71, if_neg h75, if_neg (show ¬ (aR I (16 + 5 * i) = aR I (16 + 5 * b) ∧ wi (nI ci - nI cb) (-1) 1 = 1) from fun z => wi_n1 h53 z.2), if_pos rfl] at hv2; exact ih (i + 1) _ _ (by omega) rfl hv2)
                | exact absurd h80 (by decide)
            · refine P_iload3 (pc' := 75) dX9_isAgainst_74 rfl ?_
              refine P_if_eq (tgt := 83) (pc' := 78) dX9_isAgainst_75 rfl rfl (fun h75 => ?_) (fun h75 => ?_)
              · refine P_iconst (pc' := 84) dX9_isAgainst_83 rfl (v := 1) rfl ?_
                refine P_zret dX9_isAgainst_84 (by first | exact Or.inl rfl | exact Or.inr rfl) ?_
                first
                  | (rw [if_neg h71, if_pos h75, if_neg (by decide)] at hv2; exact ⟨by rw [← hv2], rfl, rfl⟩)
                  | (rw [if_neg h71, if_neg h75, if_pos (And.intro h44 (wi_y1 h53)), if_neg (by decide)] at hv2; exact ⟨by rw [← hv2], rfl, rfl⟩)
                  | exact absurd rfl h80
              · refine P_iload4 (pc' := 80) dX9_isAgainst_78 rfl ?_
                refine P_if_eq (tgt := 85) (pc' := 83) dX9_isAgainst_80 rfl rfl (fun h80 => ?_) (fun h80 => ?_)
                · refine P_iinc2 (pc' := 88) dX9_isAgainst_85 rfl (nI_1 i) (by decide) rfl ?_
                  refine P_goto (tgt := 2) dX9_isAgainst_88 rfl ?_
                  first
                    | (rw [if_pos h71, if_pos rfl] at hv2; exact ih (i + 1) _ _ (by omega) rfl hv2)
                    | (rw [if_neg h71, if_neg h75, if_neg (show ¬ (aR I (16 + 5 * i) = aR I (16 + 5 * b) ∧ wi (nI ci - nI cb) (-1) 1 = 1) from fun z => h44 z.1), if_pos rfl] at hv2; exact ih (i + 1) _ _ (by omega) rfl hv2)
                    | (rw [if_neg h71, if_neg h75, if_neg (show ¬ (aR I (16 + 5 * i) = aR I (16 + 5 * b) ∧ wi (nI ci - nI cb) (-1) 1 = 1) from fun z => wi_n1 h53 z.2), if_pos rfl] at hv2; exact ih (i + 1) _ _ (by omega) rfl hv2)
                    | exact absurd h80 (by decide)
                · refine P_iconst (pc' := 84) dX9_isAgainst_83 rfl (v := 1) rfl ?_
                  refine P_zret dX9_isAgainst_84 (by first | exact Or.inl rfl | exact Or.inr rfl) ?_
                  first
                    | (rw [if_neg h71, if_pos h75, if_neg (by decide)] at hv2; exact ⟨by rw [← hv2], rfl, rfl⟩)
                    | (rw [if_neg h71, if_neg h75, if_pos (And.intro h44 (wi_y1 h53)), if_neg (by decide)] at hv2; exact ⟨by rw [← hv2], rfl, rfl⟩)
                    | exact absurd rfl h80
theorem c_X9_isAgainst {G : GX} {S : Shp} {I : Mem} {d n b : Nat} (hsh : SHP S) (hw : WA (aR I) n) (hb : b < n) (hd : 1 ≤ d) : PM G yX9_isAgainst cX9_isAgainst 5 (some .boolean) d 0 0 [.ref 55, .int (nI b)] S I (Rm S I (aAg (aR I) b b 0)) := by
  refine PM.of (ls := [some (.ref 55), some (.int (nI b)), none, none, none]) (by decide) rfl (Nat.le_of_ble_eq_true rfl) rfl ?_
  show PW G RX9 "isAgainst" _ _ _ _ _ _ _ _ _ _ _ _
  refine P_iconst (pc' := 1) dX9_isAgainst_0 rfl (v := 0) rfl ?_
  refine P_istore2 (pc' := 2) dX9_isAgainst_1 rfl (by decide) rfl ?_
  exact lp_X9_isAgainst hsh hw hb hd b 0 _ _ (by omega) rfl rfl
theorem lp_X9_against {G : GX} {S : Shp} {I : Mem} {d n : Nat} {y : Int32} (hsh : SHP S) (hw : WA (aR I) n) (hd : 2 ≤ d) : ∀ (k b : Nat) (v : Int32), b + k = n → aAgs (aR I) k b v = y → PW G RX9 "against" cX9_against 3 (some .int) d 0 0 (Rm S I y) 4 [some (.ref 55), some (.int v), some (.int (nI b))] [] S I := by
  have hz : I 56 1 = nI n := by rw [aR_rd I (by decide)]; exact hw.1
  have hn := hw.2.1
  intro k
  induction k with
  | zero =>
    intro b v hb hv
    have hb : b = n := by omega
    subst hb
    refine P_iload2 (pc' := 5) dX9_against_4 rfl ?_
    refine P_aload0 (pc' := 6) dX9_against_5 rfl ?_
    refine P_getr (pc' := 9) dX9_against_6 rfl fl_X9_9 rfl (l_55 hsh) (t_55 hsh) (q_55_0 hsh) ?_
    refine P_iconst (pc' := 10) dX9_against_9 rfl (v := 1) rfl ?_
    refine P_iald (pc' := 11) dX9_against_10 rfl (l_56 hsh) (t_56 hsh) (j := 1) rfl (by decide) (by decide) ?_
    refine P_icmp_ge (tgt := 38) (pc' := 14) dX9_against_11 rfl rfl (fun h11 => ?_) (fun h11 => ?_)
    · refine P_iload1 (pc' := 39) dX9_against_38 rfl ?_
      refine P_iret dX9_against_39 ?_
      exact ⟨by rw [← hv]; rfl, rfl, rfl⟩
    · exact absurd (by rw [hz]; exact Int32.le_refl _) h11
  | succ k ih =>
    intro b v hb hv
    rw [aAgs_s] at hv
    refine P_iload2 (pc' := 5) dX9_against_4 rfl ?_
    refine P_aload0 (pc' := 6) dX9_against_5 rfl ?_
    refine P_getr (pc' := 9) dX9_against_6 rfl fl_X9_9 rfl (l_55 hsh) (t_55 hsh) (q_55_0 hsh) ?_
    refine P_iconst (pc' := 10) dX9_against_9 rfl (v := 1) rfl ?_
    refine P_iald (pc' := 11) dX9_against_10 rfl (l_56 hsh) (t_56 hsh) (j := 1) rfl (by decide) (by decide) ?_
    refine P_icmp_ge (tgt := 38) (pc' := 14) dX9_against_11 rfl rfl (fun h11 => ?_) (fun h11 => ?_)
    · exact absurd h11 (by rw [hz]; exact nI_ge (by omega) (by omega))
    · refine P_iload1 (pc' := 15) dX9_against_14 rfl ?_
      refine P_aload0 (pc' := 16) dX9_against_15 rfl ?_
      refine P_iload2 (pc' := 17) dX9_against_16 rfl ?_
      refine P_callV1 (pc' := 20) dX9_against_17 rfl lk_X9_101 (l_55 hsh) (t_55 hsh) (c_X9_isAgainst (d := 1) hsh hw (by omega) (by omega)) (by omega) (Nat.le_of_ble_eq_true rfl) (fun r S' I' hq => ?_)
      obtain ⟨rfl, rfl, rfl⟩ := hq
      refine P_if_eq (tgt := 29) (pc' := 23) dX9_against_20 rfl rfl (fun h20 => ?_) (fun h20 => ?_)
      · refine P_iconst (pc' := 30) dX9_against_29 rfl (v := 0) rfl ?_
        refine P_ior (pc' := 31) dX9_against_30 rfl ?_
        refine P_istore1 (pc' := 32) dX9_against_31 rfl (by decide) rfl ?_
        refine P_iinc2 (pc' := 35) dX9_against_32 rfl (nI_1 b) (by decide) rfl ?_
        refine P_goto (tgt := 4) dX9_against_35 rfl ?_
        first
          | (rw [if_pos h20] at hv; rw [i_or0]; exact ih (b + 1) _ (by omega) hv)
          | (rw [if_neg h20] at hv; exact ih (b + 1) _ (by omega) hv)
      · refine P_iconst (pc' := 24) dX9_against_23 rfl (v := 1) rfl ?_
        refine P_iload2 (pc' := 25) dX9_against_24 rfl ?_
        refine P_ishl (pc' := 26) dX9_against_25 rfl ?_
        refine P_goto (tgt := 30) dX9_against_26 rfl ?_
        refine P_ior (pc' := 31) dX9_against_30 rfl ?_
        refine P_istore1 (pc' := 32) dX9_against_31 rfl (by decide) rfl ?_
        refine P_iinc2 (pc' := 35) dX9_against_32 rfl (nI_1 b) (by decide) rfl ?_
        refine P_goto (tgt := 4) dX9_against_35 rfl ?_
        first
          | (rw [if_pos h20] at hv; rw [i_or0]; exact ih (b + 1) _ (by omega) hv)
          | (rw [if_neg h20] at hv; exact ih (b + 1) _ (by omega) hv)
theorem c_X9_against {G : GX} {S : Shp} {I : Mem} {d n : Nat} (hsh : SHP S) (hw : WA (aR I) n) (hd : 2 ≤ d) : PM G yX9_against cX9_against 3 (some .int) d 0 0 [.ref 55] S I (Rm S I (aAgs (aR I) n 0 0)) := by
  refine PM.of (ls := [some (.ref 55), none, none]) (by decide) rfl (Nat.le_of_ble_eq_true rfl) rfl ?_
  show PW G RX9 "against" _ _ _ _ _ _ _ _ _ _ _ _
  refine P_iconst (pc' := 1) dX9_against_0 rfl (v := 0) rfl ?_
  refine P_istore1 (pc' := 2) dX9_against_1 rfl (by decide) rfl ?_
  refine P_iconst (pc' := 3) dX9_against_2 rfl (v := 0) rfl ?_
  refine P_istore2 (pc' := 4) dX9_against_3 rfl (by decide) rfl ?_
  exact lp_X9_against hsh hw hd n 0 0 (by omega) rfl

