def vBeh (al : Int32 → Int32 → Int32 → Int32) (A : Nat → Int32) (v y : Int32) : Int32 := if wi v 0 100 = 0 then -1000000001 else if wi y 0 (2 + A 1) = 0 then -1000000001 else if y = 0 then aSum (aHrs al (A 1).toNatClampNeg v.toNatClampNeg A) 19 (A 1).toNatClampNeg else if y = 1 then aHrs al (A 1).toNatClampNeg v.toNatClampNeg A 6 else if y = 2 then aSum (aHrs al (A 1).toNatClampNeg v.toNatClampNeg A) 20 (A 1).toNatClampNeg else aHrs al (A 1).toNatClampNeg v.toNatClampNeg A (19 + 5 * (y.toNatClampNeg - 3))
theorem vBeh_y {al : Int32 → Int32 → Int32 → Int32} {A : Nat → Int32} {n j i : Nat} (h1 : ¬ wi (nI j) 0 100 = 0) (h2 : ¬ wi (nI i) 0 (nI (2 + n)) = 0) (hn : A 1 = nI n) (hn9 : n ≤ 9) (hj : j ≤ 100) (hi : i ≤ 11) : vBeh al A (nI j) (nI i) = if i = 0 then aSum (aHrs al n j A) 19 n else if i = 1 then aHrs al n j A 6 else if i = 2 then aSum (aHrs al n j A) 20 n else aHrs al n j A (19 + 5 * (i - 3)) := by
  unfold vBeh
  rw [if_neg h1, hn, show (2 : Int32) + nI n = nI (2 + n) from nI_add 2 n, if_neg h2, nI_clamp (by omega), nI_clamp (by omega), nI_clamp (by omega)]
  have e : ∀ c : Nat, c ≤ 11 → (nI i = nI c ↔ i = c) := fun c hc => nI_eq (by omega) (by omega)
  by_cases q0 : i = 0
  · rw [if_pos q0, if_pos (show nI i = 0 from (e 0 (by decide)).mpr q0)]
  · rw [if_neg q0, if_neg (show ¬ nI i = 0 from fun z => q0 ((e 0 (by decide)).mp z))]
    by_cases q1 : i = 1
    · rw [if_pos q1, if_pos (show nI i = 1 from (e 1 (by decide)).mpr q1)]
    · rw [if_neg q1, if_neg (show ¬ nI i = 1 from fun z => q1 ((e 1 (by decide)).mp z))]
      by_cases q2 : i = 2
      · rw [if_pos q2, if_pos (show nI i = 2 from (e 2 (by decide)).mpr q2)]
      · rw [if_neg q2, if_neg (show ¬ nI i = 2 from fun z => q2 ((e 2 (by decide)).mp z))]
/-- behind hours in what is thought -/
theorem P8_n {S : Shp} {I J : Mem} {al : Int32 → Int32 → Int32 → Int32} {A : Nat → Int32} {n : Nat} (hP : Pst 8 S I al A J) (hw : WA A n) : J 8 6 = nI n := by
  have e : aC 8 J 1 = J 8 6 := rfl
  rw [← e, hP.1]
  exact hw.1
theorem x_behind {G : GX} {S : Shp} {I T : Mem} {d tn bn : Nat} {tx : Nat → Tx} (hK : K S I T tn bn tx) (v y : Int32) (hd : 12 ≤ d) : PM G yX8_behind cX8_behind 3 (some .int) d 0 0 [.ref 0, .int v, .int y] S I (CO I T tn bn tx (vBeh (alX tn tx) (aR T) v y)) := by
  obtain ⟨n, hn, hw, hA, hz, ht⟩ := hK.n
  have hsh := hK.2.1
  have e2 : (2 : Int32) + nI n = nI (2 + n) := nI_add 2 n
  refine PM.of (ls := [some (.ref 0), some (.int v), some (.int y)]) (by decide) rfl (Nat.le_of_ble_eq_true rfl) rfl ?_
  show PW G RX8 "behind" _ _ _ _ _ _ _ _ _ _ _ _
  by_cases hv : wi v 0 100 = 0
  · rw [show vBeh (alX tn tx) (aR T) v y = -1000000001 from if_pos hv]
    refine P_iload1 (pc' := 1) dX8_behind_0 rfl ?_
    refine P_iconst (pc' := 2) dX8_behind_1 rfl (v := 0) rfl ?_
    refine P_bipush (pc' := 4) dX8_behind_2 rfl (v := 100) rfl ?_
    refine P_callS3 (pc' := 7) dX8_behind_4 rfl lk_X8_77 (c_X8_wi (d := 0) v 0 100) (by omega) (Nat.le_of_ble_eq_true rfl) (fun r S' I' hq => ?_)
    obtain ⟨rfl, rfl, rfl⟩ := hq
    refine P_if_eq (tgt := 27) (pc' := 10) dX8_behind_7 rfl rfl (fun h7 => ?_) (fun h7 => ?_)
    · refine P_ldc (pc' := 29) dX8_behind_27 rfl co_X8_81 ?_
      refine P_iret dX8_behind_29 ?_
      exact CO.id hK
    · exact absurd hv h7
  · by_cases hy : wi y 0 (nI (2 + n)) = 0
    · rw [show vBeh (alX tn tx) (aR T) v y = -1000000001 by unfold vBeh; rw [if_neg hv, hw.1, e2, if_pos hy]]
      refine P_iload1 (pc' := 1) dX8_behind_0 rfl ?_
      refine P_iconst (pc' := 2) dX8_behind_1 rfl (v := 0) rfl ?_
      refine P_bipush (pc' := 4) dX8_behind_2 rfl (v := 100) rfl ?_
      refine P_callS3 (pc' := 7) dX8_behind_4 rfl lk_X8_77 (c_X8_wi (d := 0) v 0 100) (by omega) (Nat.le_of_ble_eq_true rfl) (fun r S' I' hq => ?_)
      obtain ⟨rfl, rfl, rfl⟩ := hq
      refine P_if_eq (tgt := 27) (pc' := 10) dX8_behind_7 rfl rfl (fun h7 => ?_) (fun h7 => ?_)
      · exact absurd h7 hv
      · refine P_iload2 (pc' := 11) dX8_behind_10 rfl ?_
        refine P_iconst (pc' := 12) dX8_behind_11 rfl (v := 0) rfl ?_
        refine P_iconst (pc' := 13) dX8_behind_12 rfl (v := 2) rfl ?_
        refine P_aload0 (pc' := 14) dX8_behind_13 rfl ?_
        refine P_getr (pc' := 17) dX8_behind_14 rfl fl_X8_10 rfl (l_0 hsh) (t_0 hsh) (q_0_0 hsh) ?_
        refine P_geti (pc' := 20) dX8_behind_17 rfl fl_X8_82 rfl (l_1 hsh) (t_1 hsh) ?_
        refine P_as hz ?_
        refine P_iadd (pc' := 21) dX8_behind_20 rfl ?_
        refine P_as e2 ?_
        refine P_callS3 (pc' := 24) dX8_behind_21 rfl lk_X8_77 (c_X8_wi (d := 0) y 0 (nI (2 + n))) (by omega) (Nat.le_of_ble_eq_true rfl) (fun r S' I' hq => ?_)
        obtain ⟨rfl, rfl, rfl⟩ := hq
        refine P_if_ne (tgt := 30) (pc' := 27) dX8_behind_24 rfl rfl (fun h24 => ?_) (fun h24 => ?_)
        · exact absurd hy h24
        · refine P_ldc (pc' := 29) dX8_behind_27 rfl co_X8_81 ?_
          refine P_iret dX8_behind_29 ?_
          exact CO.id hK
    · obtain ⟨j, hj, rfl⟩ := wi_b (m := 100) (by decide) hv
      obtain ⟨i, hi, rfl⟩ := wi_b (by omega) hy
      rw [vBeh_y hv hy hw.1 (by omega) hj (by omega)]
      by_cases i0 : i = 0
      · subst i0
        rw [if_pos rfl]
        refine P_iload1 (pc' := 1) dX8_behind_0 rfl ?_
        refine P_iconst (pc' := 2) dX8_behind_1 rfl (v := 0) rfl ?_
        refine P_bipush (pc' := 4) dX8_behind_2 rfl (v := 100) rfl ?_
        refine P_callS3 (pc' := 7) dX8_behind_4 rfl lk_X8_77 (c_X8_wi (d := 0) (nI j) 0 100) (by omega) (Nat.le_of_ble_eq_true rfl) (fun r S' I' hq => ?_)
        obtain ⟨rfl, rfl, rfl⟩ := hq
        refine P_if_eq (tgt := 27) (pc' := 10) dX8_behind_7 rfl rfl (fun h7 => ?_) (fun h7 => ?_)
        · exact absurd h7 hv
        · refine P_iload2 (pc' := 11) dX8_behind_10 rfl ?_
          refine P_iconst (pc' := 12) dX8_behind_11 rfl (v := 0) rfl ?_
          refine P_iconst (pc' := 13) dX8_behind_12 rfl (v := 2) rfl ?_
          refine P_aload0 (pc' := 14) dX8_behind_13 rfl ?_
          refine P_getr (pc' := 17) dX8_behind_14 rfl fl_X8_10 rfl (l_0 hsh) (t_0 hsh) (q_0_0 hsh) ?_
          refine P_geti (pc' := 20) dX8_behind_17 rfl fl_X8_82 rfl (l_1 hsh) (t_1 hsh) ?_
          refine P_as hz ?_
          refine P_iadd (pc' := 21) dX8_behind_20 rfl ?_
          refine P_as e2 ?_
          refine P_callS3 (pc' := 24) dX8_behind_21 rfl lk_X8_77 (c_X8_wi (d := 0) _ 0 (nI (2 + n))) (by omega) (Nat.le_of_ble_eq_true rfl) (fun r S' I' hq => ?_)
          obtain ⟨rfl, rfl, rfl⟩ := hq
          refine P_if_ne (tgt := 30) (pc' := 27) dX8_behind_24 rfl rfl (fun h24 => ?_) (fun h24 => ?_)
          · refine P_aload0 (pc' := 31) dX8_behind_30 rfl ?_
            refine P_callV0 (pc' := 34) dX8_behind_31 rfl lk_X8_185 (l_0 hsh) (t_0 hsh) (c_X8_think (d := 6) hK (by omega)) (by omega) (Nat.le_of_ble_eq_true rfl) (fun r S2 I2 hq => ?_)
            obtain ⟨rfl, hK2, hal2, h8, hf2⟩ := hq
            have hsh2 := hK2.2.1
            refine P_aload0 (pc' := 35) dX8_behind_34 rfl ?_
            refine P_getr (pc' := 38) dX8_behind_35 rfl fl_X8_16 rfl (l_0 hsh2) (t_0 hsh2) (q_0_1 hsh2) ?_
            refine P_iload1 (pc' := 39) dX8_behind_38 rfl ?_
            refine P_aload0 (pc' := 40) dX8_behind_39 rfl ?_
            refine P_getr (pc' := 43) dX8_behind_40 rfl fl_X8_47 rfl (l_0 hsh2) (t_0 hsh2) (q_0_7 hsh2) ?_
            refine P_callV2 (pc' := 46) dX8_behind_43 rfl lk_X8_169 (l_8 hsh2) (t_8 hsh2) (c_X5_passHours (d := 6) (n := n) hsh2 (Or.inr (Or.inl rfl)) hal2 (by rw [h8]; exact hw) (by omega) (by omega)) (by omega) (Nat.le_of_ble_eq_true rfl) (fun r S3 I3 hq => ?_)
            obtain ⟨rfl, rfl, hP⟩ := hq
            rw [h8] at hP
            have hz3 := P8_n hP (aHrs_wa hw)
            have hK3 := hK2.p8 hP
            have hf3 : ∀ x, 55 ≤ x → x < 77 → I3 x = I x := fun x h1 h2 => by rw [hP.2.2 x (by unfold Scr; omega) (by omega)]; exact hf2 x h1 h2
            refine P_iload2 (pc' := 47) dX8_behind_46 rfl ?_
            refine P_tabIn (tgt := 72) dX8_behind_47 (by decide) (by decide) rfl rfl ?_
            refine P_aload0 (pc' := 73) dX8_behind_72 rfl ?_
            refine P_getr (pc' := 76) dX8_behind_73 rfl fl_X8_16 rfl (l_0 hsh2) (t_0 hsh2) (q_0_1 hsh2) ?_
            refine P_callV0 (pc' := 79) dX8_behind_76 rfl lk_X8_173 (l_8 hsh2) (t_8 hsh2) (c_X5_allPurses (d := 1) (n := n) hsh2 (Or.inr (Or.inl rfl)) hz3 (by omega)) (by omega) (Nat.le_of_ble_eq_true rfl) (fun r S' I' hq => ?_)
            obtain ⟨rfl, rfl, rfl⟩ := hq
            refine P_iret dX8_behind_79 ?_
            rw [hP.1]
            exact ⟨rfl, hK3, hf3⟩
          · exact absurd h24 hy
      · by_cases i1 : i = 1
        · subst i1
          rw [if_neg (by decide), if_pos rfl]
          refine P_iload1 (pc' := 1) dX8_behind_0 rfl ?_
          refine P_iconst (pc' := 2) dX8_behind_1 rfl (v := 0) rfl ?_
          refine P_bipush (pc' := 4) dX8_behind_2 rfl (v := 100) rfl ?_
          refine P_callS3 (pc' := 7) dX8_behind_4 rfl lk_X8_77 (c_X8_wi (d := 0) (nI j) 0 100) (by omega) (Nat.le_of_ble_eq_true rfl) (fun r S' I' hq => ?_)
          obtain ⟨rfl, rfl, rfl⟩ := hq
          refine P_if_eq (tgt := 27) (pc' := 10) dX8_behind_7 rfl rfl (fun h7 => ?_) (fun h7 => ?_)
          · exact absurd h7 hv
          · refine P_iload2 (pc' := 11) dX8_behind_10 rfl ?_
            refine P_iconst (pc' := 12) dX8_behind_11 rfl (v := 0) rfl ?_
            refine P_iconst (pc' := 13) dX8_behind_12 rfl (v := 2) rfl ?_
            refine P_aload0 (pc' := 14) dX8_behind_13 rfl ?_
            refine P_getr (pc' := 17) dX8_behind_14 rfl fl_X8_10 rfl (l_0 hsh) (t_0 hsh) (q_0_0 hsh) ?_
            refine P_geti (pc' := 20) dX8_behind_17 rfl fl_X8_82 rfl (l_1 hsh) (t_1 hsh) ?_
            refine P_as hz ?_
            refine P_iadd (pc' := 21) dX8_behind_20 rfl ?_
            refine P_as e2 ?_
            refine P_callS3 (pc' := 24) dX8_behind_21 rfl lk_X8_77 (c_X8_wi (d := 0) _ 0 (nI (2 + n))) (by omega) (Nat.le_of_ble_eq_true rfl) (fun r S' I' hq => ?_)
            obtain ⟨rfl, rfl, rfl⟩ := hq
            refine P_if_ne (tgt := 30) (pc' := 27) dX8_behind_24 rfl rfl (fun h24 => ?_) (fun h24 => ?_)
            · refine P_aload0 (pc' := 31) dX8_behind_30 rfl ?_
              refine P_callV0 (pc' := 34) dX8_behind_31 rfl lk_X8_185 (l_0 hsh) (t_0 hsh) (c_X8_think (d := 6) hK (by omega)) (by omega) (Nat.le_of_ble_eq_true rfl) (fun r S2 I2 hq => ?_)
              obtain ⟨rfl, hK2, hal2, h8, hf2⟩ := hq
              have hsh2 := hK2.2.1
              refine P_aload0 (pc' := 35) dX8_behind_34 rfl ?_
              refine P_getr (pc' := 38) dX8_behind_35 rfl fl_X8_16 rfl (l_0 hsh2) (t_0 hsh2) (q_0_1 hsh2) ?_
              refine P_iload1 (pc' := 39) dX8_behind_38 rfl ?_
              refine P_aload0 (pc' := 40) dX8_behind_39 rfl ?_
              refine P_getr (pc' := 43) dX8_behind_40 rfl fl_X8_47 rfl (l_0 hsh2) (t_0 hsh2) (q_0_7 hsh2) ?_
              refine P_callV2 (pc' := 46) dX8_behind_43 rfl lk_X8_169 (l_8 hsh2) (t_8 hsh2) (c_X5_passHours (d := 6) (n := n) hsh2 (Or.inr (Or.inl rfl)) hal2 (by rw [h8]; exact hw) (by omega) (by omega)) (by omega) (Nat.le_of_ble_eq_true rfl) (fun r S3 I3 hq => ?_)
              obtain ⟨rfl, rfl, hP⟩ := hq
              rw [h8] at hP
              have hz3 := P8_n hP (aHrs_wa hw)
              have hK3 := hK2.p8 hP
              have hf3 : ∀ x, 55 ≤ x → x < 77 → I3 x = I x := fun x h1 h2 => by rw [hP.2.2 x (by unfold Scr; omega) (by omega)]; exact hf2 x h1 h2
              refine P_iload2 (pc' := 47) dX8_behind_46 rfl ?_
              refine P_tabIn (tgt := 80) dX8_behind_47 (by decide) (by decide) rfl rfl ?_
              refine P_aload0 (pc' := 81) dX8_behind_80 rfl ?_
              refine P_getr (pc' := 84) dX8_behind_81 rfl fl_X8_16 rfl (l_0 hsh2) (t_0 hsh2) (q_0_1 hsh2) ?_
              refine P_geti (pc' := 87) dX8_behind_84 rfl fl_X8_176 rfl (l_8 hsh2) (t_8 hsh2) ?_
              refine P_iret dX8_behind_87 ?_
              rw [show I3 8 10 = aC 8 I3 6 from rfl, hP.1]
              exact ⟨rfl, hK3, hf3⟩
            · exact absurd h24 hy
        · by_cases i2 : i = 2
          · subst i2
            rw [if_neg (by decide), if_neg (by decide), if_pos rfl]
            refine P_iload1 (pc' := 1) dX8_behind_0 rfl ?_
            refine P_iconst (pc' := 2) dX8_behind_1 rfl (v := 0) rfl ?_
            refine P_bipush (pc' := 4) dX8_behind_2 rfl (v := 100) rfl ?_
            refine P_callS3 (pc' := 7) dX8_behind_4 rfl lk_X8_77 (c_X8_wi (d := 0) (nI j) 0 100) (by omega) (Nat.le_of_ble_eq_true rfl) (fun r S' I' hq => ?_)
            obtain ⟨rfl, rfl, rfl⟩ := hq
            refine P_if_eq (tgt := 27) (pc' := 10) dX8_behind_7 rfl rfl (fun h7 => ?_) (fun h7 => ?_)
            · exact absurd h7 hv
            · refine P_iload2 (pc' := 11) dX8_behind_10 rfl ?_
              refine P_iconst (pc' := 12) dX8_behind_11 rfl (v := 0) rfl ?_
              refine P_iconst (pc' := 13) dX8_behind_12 rfl (v := 2) rfl ?_
              refine P_aload0 (pc' := 14) dX8_behind_13 rfl ?_
              refine P_getr (pc' := 17) dX8_behind_14 rfl fl_X8_10 rfl (l_0 hsh) (t_0 hsh) (q_0_0 hsh) ?_
              refine P_geti (pc' := 20) dX8_behind_17 rfl fl_X8_82 rfl (l_1 hsh) (t_1 hsh) ?_
              refine P_as hz ?_
              refine P_iadd (pc' := 21) dX8_behind_20 rfl ?_
              refine P_as e2 ?_
              refine P_callS3 (pc' := 24) dX8_behind_21 rfl lk_X8_77 (c_X8_wi (d := 0) _ 0 (nI (2 + n))) (by omega) (Nat.le_of_ble_eq_true rfl) (fun r S' I' hq => ?_)
              obtain ⟨rfl, rfl, rfl⟩ := hq
              refine P_if_ne (tgt := 30) (pc' := 27) dX8_behind_24 rfl rfl (fun h24 => ?_) (fun h24 => ?_)
              · refine P_aload0 (pc' := 31) dX8_behind_30 rfl ?_
                refine P_callV0 (pc' := 34) dX8_behind_31 rfl lk_X8_185 (l_0 hsh) (t_0 hsh) (c_X8_think (d := 6) hK (by omega)) (by omega) (Nat.le_of_ble_eq_true rfl) (fun r S2 I2 hq => ?_)
                obtain ⟨rfl, hK2, hal2, h8, hf2⟩ := hq
                have hsh2 := hK2.2.1
                refine P_aload0 (pc' := 35) dX8_behind_34 rfl ?_
                refine P_getr (pc' := 38) dX8_behind_35 rfl fl_X8_16 rfl (l_0 hsh2) (t_0 hsh2) (q_0_1 hsh2) ?_
                refine P_iload1 (pc' := 39) dX8_behind_38 rfl ?_
                refine P_aload0 (pc' := 40) dX8_behind_39 rfl ?_
                refine P_getr (pc' := 43) dX8_behind_40 rfl fl_X8_47 rfl (l_0 hsh2) (t_0 hsh2) (q_0_7 hsh2) ?_
                refine P_callV2 (pc' := 46) dX8_behind_43 rfl lk_X8_169 (l_8 hsh2) (t_8 hsh2) (c_X5_passHours (d := 6) (n := n) hsh2 (Or.inr (Or.inl rfl)) hal2 (by rw [h8]; exact hw) (by omega) (by omega)) (by omega) (Nat.le_of_ble_eq_true rfl) (fun r S3 I3 hq => ?_)
                obtain ⟨rfl, rfl, hP⟩ := hq
                rw [h8] at hP
                have hz3 := P8_n hP (aHrs_wa hw)
                have hK3 := hK2.p8 hP
                have hf3 : ∀ x, 55 ≤ x → x < 77 → I3 x = I x := fun x h1 h2 => by rw [hP.2.2 x (by unfold Scr; omega) (by omega)]; exact hf2 x h1 h2
                refine P_iload2 (pc' := 47) dX8_behind_46 rfl ?_
                refine P_tabIn (tgt := 88) dX8_behind_47 (by decide) (by decide) rfl rfl ?_
                refine P_aload0 (pc' := 89) dX8_behind_88 rfl ?_
                refine P_getr (pc' := 92) dX8_behind_89 rfl fl_X8_16 rfl (l_0 hsh2) (t_0 hsh2) (q_0_1 hsh2) ?_
                refine P_callV0 (pc' := 95) dX8_behind_92 rfl lk_X8_163 (l_8 hsh2) (t_8 hsh2) (c_X5_allHats (d := 1) (n := n) hsh2 (Or.inr (Or.inl rfl)) hz3 (by omega)) (by omega) (Nat.le_of_ble_eq_true rfl) (fun r S' I' hq => ?_)
                obtain ⟨rfl, rfl, rfl⟩ := hq
                refine P_iret dX8_behind_95 ?_
                rw [hP.1]
                exact ⟨rfl, hK3, hf3⟩
              · exact absurd h24 hy
          · rw [if_neg i0, if_neg i1, if_neg i2]
            refine P_iload1 (pc' := 1) dX8_behind_0 rfl ?_
            refine P_iconst (pc' := 2) dX8_behind_1 rfl (v := 0) rfl ?_
            refine P_bipush (pc' := 4) dX8_behind_2 rfl (v := 100) rfl ?_
            refine P_callS3 (pc' := 7) dX8_behind_4 rfl lk_X8_77 (c_X8_wi (d := 0) (nI j) 0 100) (by omega) (Nat.le_of_ble_eq_true rfl) (fun r S' I' hq => ?_)
            obtain ⟨rfl, rfl, rfl⟩ := hq
            refine P_if_eq (tgt := 27) (pc' := 10) dX8_behind_7 rfl rfl (fun h7 => ?_) (fun h7 => ?_)
            · exact absurd h7 hv
            · refine P_iload2 (pc' := 11) dX8_behind_10 rfl ?_
              refine P_iconst (pc' := 12) dX8_behind_11 rfl (v := 0) rfl ?_
              refine P_iconst (pc' := 13) dX8_behind_12 rfl (v := 2) rfl ?_
              refine P_aload0 (pc' := 14) dX8_behind_13 rfl ?_
              refine P_getr (pc' := 17) dX8_behind_14 rfl fl_X8_10 rfl (l_0 hsh) (t_0 hsh) (q_0_0 hsh) ?_
              refine P_geti (pc' := 20) dX8_behind_17 rfl fl_X8_82 rfl (l_1 hsh) (t_1 hsh) ?_
              refine P_as hz ?_
              refine P_iadd (pc' := 21) dX8_behind_20 rfl ?_
              refine P_as e2 ?_
              refine P_callS3 (pc' := 24) dX8_behind_21 rfl lk_X8_77 (c_X8_wi (d := 0) _ 0 (nI (2 + n))) (by omega) (Nat.le_of_ble_eq_true rfl) (fun r S' I' hq => ?_)
              obtain ⟨rfl, rfl, rfl⟩ := hq
              refine P_if_ne (tgt := 30) (pc' := 27) dX8_behind_24 rfl rfl (fun h24 => ?_) (fun h24 => ?_)
              · refine P_aload0 (pc' := 31) dX8_behind_30 rfl ?_
                refine P_callV0 (pc' := 34) dX8_behind_31 rfl lk_X8_185 (l_0 hsh) (t_0 hsh) (c_X8_think (d := 6) hK (by omega)) (by omega) (Nat.le_of_ble_eq_true rfl) (fun r S2 I2 hq => ?_)
                obtain ⟨rfl, hK2, hal2, h8, hf2⟩ := hq
                have hsh2 := hK2.2.1
                refine P_aload0 (pc' := 35) dX8_behind_34 rfl ?_
                refine P_getr (pc' := 38) dX8_behind_35 rfl fl_X8_16 rfl (l_0 hsh2) (t_0 hsh2) (q_0_1 hsh2) ?_
                refine P_iload1 (pc' := 39) dX8_behind_38 rfl ?_
                refine P_aload0 (pc' := 40) dX8_behind_39 rfl ?_
                refine P_getr (pc' := 43) dX8_behind_40 rfl fl_X8_47 rfl (l_0 hsh2) (t_0 hsh2) (q_0_7 hsh2) ?_
                refine P_callV2 (pc' := 46) dX8_behind_43 rfl lk_X8_169 (l_8 hsh2) (t_8 hsh2) (c_X5_passHours (d := 6) (n := n) hsh2 (Or.inr (Or.inl rfl)) hal2 (by rw [h8]; exact hw) (by omega) (by omega)) (by omega) (Nat.le_of_ble_eq_true rfl) (fun r S3 I3 hq => ?_)
                obtain ⟨rfl, rfl, hP⟩ := hq
                rw [h8] at hP
                have hz3 := P8_n hP (aHrs_wa hw)
                have hK3 := hK2.p8 hP
                have hf3 : ∀ x, 55 ≤ x → x < 77 → I3 x = I x := fun x h1 h2 => by rw [hP.2.2 x (by unfold Scr; omega) (by omega)]; exact hf2 x h1 h2
                refine P_iload2 (pc' := 47) dX8_behind_46 rfl ?_
                refine P_tabOut (tgt := 96) dX8_behind_47 (Or.inr (by rw [nI_toInt (by omega)]; omega)) rfl ?_
                refine P_aload0 (pc' := 97) dX8_behind_96 rfl ?_
                refine P_getr (pc' := 100) dX8_behind_97 rfl fl_X8_16 rfl (l_0 hsh2) (t_0 hsh2) (q_0_1 hsh2) ?_
                refine P_getr (pc' := 103) dX8_behind_100 rfl fl_X8_102 rfl (l_8 hsh2) (t_8 hsh2) (q_8_4 hsh2) ?_
                refine P_iload2 (pc' := 104) dX8_behind_103 rfl ?_
                refine P_iconst (pc' := 105) dX8_behind_104 rfl (v := 3) rfl ?_
                refine P_isub (pc' := 106) dX8_behind_105 rfl ?_
                refine P_iald (pc' := 107) dX8_behind_106 rfl (l_13 hsh2) (t_13 hsh2) (j := i - 3) (pk_sub (a := i) (b := 3) (by omega)) (by omega) (by decide) ?_
                refine P_iret dX8_behind_107 ?_
                rw [show I3 13 (i - 3) = aC 8 I3 (19 + 5 * (i - 3)) from aC_rp (o := 8) I3 (by omega), hP.1]
                exact ⟨rfl, hK3, hf3⟩
              · exact absurd h24 hy

