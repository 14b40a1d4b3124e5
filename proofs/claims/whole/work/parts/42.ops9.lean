def aFl (A : Nat → Int32) (v : Int32) : Nat → Int32 := fun i => if 8 ≤ i ∧ i < 16 then v else A i
theorem aFl_wa {A : Nat → Int32} {n : Nat} {v : Int32} (h : WA A n) : WA (aFl A v) n := by
  refine h.mv ?_ ?_ ?_ (fun b k _ _ => ?_)
  · exact if_neg (by omega)
  · exact if_neg (by omega)
  · exact if_neg (by omega)
  · exact if_neg (by omega)
theorem aC_fl {I : Mem} {v : Int32} : aC 8 (fl1 I 9 8 v) = aFl (aC 8 I) v := by
  funext i
  by_cases h1 : i < 8
  · have h5 : ¬ (8 ≤ i ∧ i < 16) := by omega
    simp [aFl, aC, fl1, sR, h1, h5]
  · by_cases h2 : i < 16
    · have h5 : 8 ≤ i ∧ i < 16 := by omega
      have h6 : i - 8 < 8 := by omega
      simp [aFl, aC, fl1, sR, h1, h2, h5, h6]
    · have h5 : ¬ (8 ≤ i ∧ i < 16) := by omega
      have h6 : ¬ (8 + 2 + (i - 16) % 5 = 9) := by omega
      simp [aFl, aC, fl1, sR, h1, h2, h5, h6]
theorem sh_8 {u : Nat} (h : u = 1 ∨ u = 2 ∨ u = 3) : (1 : Int32) <<< ((3 * nI u) &&& 31) = nI (8 ^ u) := by
  rcases h with rfl | rfl | rfl <;> decide
theorem bN_ne {b : Nat} (h : b < 1000) : ¬ nI b = -1000000005 := fun z => by
  have h1 := nI_pos (n := b) (by omega)
  rw [z] at h1
  exact absurd (by decide) h1
def fRen (al : Int32 → Int32 → Int32 → Int32) (A : Nat → Int32) (n h : Nat) : Nat → Option Int32 := fun c => if aDebt (aHrs al n h (aFl A (nI c))) n 0 = 0 then some (aHrs al n h (aFl A (nI c)) 6) else none
theorem lp_X8_bestRent {G : GX} {I0 T : Mem} {d tn bn n h : Nat} {tx : Nat → Tx} {y : Int32} {R : Option (Nat × Int32)} (hw : WA (aR T) n) (hn : n ≤ 8) (hh : h ≤ 100) (hd : 12 ≤ d) : ∀ (k c : Nat) (S : Shp) (I : Mem) (q : Option (Nat × Int32)), c + k = 10 → K S I T tn bn tx → (∀ x, 55 ≤ x → x < 77 → I x = I0 x) → (∀ b m, q = some (b, m) → b < 1000) → sel (fRen (alX tn tx) (aR T) n h) k c q = R → PW G RX8 "bestRent" cX8_bestRent 6 (some .int) d 0 0 (CO I0 T tn bn tx (resV y R)) 31 [some (.ref 0), some (.int (nI h)), some (.int y), some (.int (bN q)), some (.int (mC q)), some (.int (nI c))] [] S I := by
  intro k
  induction k with
  | zero =>
    intro c S I q hc hK hf hq hR
    have hc : c = 10 := by omega
    subst hc
    have hsh := hK.2.1
    have hR : q = R := hR
    subst hR
    cases q with
    | none =>
      refine P_iload5 (pc' := 33) dX8_bestRent_31 rfl ?_
      refine P_bipush (pc' := 35) dX8_bestRent_33 rfl (v := 9) rfl ?_
      refine P_icmp_gt (tgt := 112) (pc' := 38) dX8_bestRent_35 rfl rfl (fun h35 => ?_) (fun h35 => ?_)
      · refine P_iload2 (pc' := 113) dX8_bestRent_112 rfl ?_
        refine P_if_eq (tgt := 122) (pc' := 116) dX8_bestRent_113 rfl rfl (fun h113 => ?_) (fun h113 => ?_)
        · refine P_iload3 (pc' := 123) dX8_bestRent_122 rfl ?_
          refine P_goto (tgt := 128) dX8_bestRent_123 rfl ?_
          refine P_iret dX8_bestRent_128 ?_
          exact ⟨rfl, hK, hf⟩
        · refine P_iload3 (pc' := 117) dX8_bestRent_116 rfl ?_
          refine P_ldc (pc' := 119) dX8_bestRent_117 rfl co_X8_188 ?_
          refine P_icmp_ne (tgt := 126) (pc' := 122) dX8_bestRent_119 rfl rfl (fun h119 => ?_) (fun h119 => ?_)
          · exact absurd rfl h119
          · refine P_iload3 (pc' := 123) dX8_bestRent_122 rfl ?_
            refine P_goto (tgt := 128) dX8_bestRent_123 rfl ?_
            refine P_iret dX8_bestRent_128 ?_
            exact ⟨rfl, hK, hf⟩
      · exact absurd (show (9 : Int32) < nI 10 by decide) h35
    | some z =>
      obtain ⟨b', m⟩ := z
      refine P_iload5 (pc' := 33) dX8_bestRent_31 rfl ?_
      refine P_bipush (pc' := 35) dX8_bestRent_33 rfl (v := 9) rfl ?_
      refine P_icmp_gt (tgt := 112) (pc' := 38) dX8_bestRent_35 rfl rfl (fun h35 => ?_) (fun h35 => ?_)
      · refine P_iload2 (pc' := 113) dX8_bestRent_112 rfl ?_
        refine P_if_eq (tgt := 122) (pc' := 116) dX8_bestRent_113 rfl rfl (fun h113 => ?_) (fun h113 => ?_)
        · refine P_iload3 (pc' := 123) dX8_bestRent_122 rfl ?_
          refine P_goto (tgt := 128) dX8_bestRent_123 rfl ?_
          refine P_iret dX8_bestRent_128 ?_
          first
            | (rw [show resV y (some (b', m)) = nI b' from if_pos h113]; exact ⟨rfl, hK, hf⟩)
            | (rw [show resV y (some (b', m)) = m from if_neg h113]; exact ⟨rfl, hK, hf⟩)
        · refine P_iload3 (pc' := 117) dX8_bestRent_116 rfl ?_
          refine P_ldc (pc' := 119) dX8_bestRent_117 rfl co_X8_188 ?_
          refine P_icmp_ne (tgt := 126) (pc' := 122) dX8_bestRent_119 rfl rfl (fun h119 => ?_) (fun h119 => ?_)
          · refine P_iload4 (pc' := 128) dX8_bestRent_126 rfl ?_
            refine P_iret dX8_bestRent_128 ?_
            first
              | (rw [show resV y (some (b', m)) = nI b' from if_pos h113]; exact ⟨rfl, hK, hf⟩)
              | (rw [show resV y (some (b', m)) = m from if_neg h113]; exact ⟨rfl, hK, hf⟩)
          · exact absurd h119 (bN_ne (hq _ _ rfl))
      · exact absurd (show (9 : Int32) < nI 10 by decide) h35
  | succ k ih =>
    intro c S I q hc hK hf hq hR
    have hsh := hK.2.1
    rw [sel_s] at hR
    have hw2 : WA (aFl (aR T) (nI c)) n := aFl_wa hw
    have hfn : ¬ aDebt (aHrs (alX tn tx) n h (aFl (aR T) (nI c))) n 0 = 0 → fRen (alX tn tx) (aR T) n h c = none := fun z => if_neg z
    have hfs : aDebt (aHrs (alX tn tx) n h (aFl (aR T) (nI c))) n 0 = 0 → fRen (alX tn tx) (aR T) n h c = some (aHrs (alX tn tx) n h (aFl (aR T) (nI c)) 6) := fun z => if_pos z
    cases q with
    | none =>
      refine P_iload5 (pc' := 33) dX8_bestRent_31 rfl ?_
      refine P_bipush (pc' := 35) dX8_bestRent_33 rfl (v := 9) rfl ?_
      refine P_icmp_gt (tgt := 112) (pc' := 38) dX8_bestRent_35 rfl rfl (fun h35 => ?_) (fun h35 => ?_)
      · exact absurd h35 (Int32.not_lt.mpr (nI_le (a := c) (b := 9) (by omega) (by decide)))
      · refine P_aload0 (pc' := 39) dX8_bestRent_38 rfl ?_
        refine P_callV0 (pc' := 42) dX8_bestRent_39 rfl lk_X8_185 (l_0 hsh) (t_0 hsh) (c_X8_think (d := 6) hK (by omega)) (by omega) (Nat.le_of_ble_eq_true rfl) (fun r S2 I2 hq => ?_)
        obtain ⟨rfl, hK2, hal2, h8, hf2⟩ := hq
        have hsh2 := hK2.2.1
        refine P_aload0 (pc' := 43) dX8_bestRent_42 rfl ?_
        refine P_getr (pc' := 46) dX8_bestRent_43 rfl fl_X8_16 rfl (l_0 hsh2) (t_0 hsh2) (q_0_1 hsh2) ?_
        refine P_getr (pc' := 49) dX8_bestRent_46 rfl fl_X8_139 rfl (l_8 hsh2) (t_8 hsh2) (q_8_0 hsh2) ?_
        refine P_iload5 (pc' := 51) dX8_bestRent_49 rfl ?_
        refine P_callS2 (pc' := 54) dX8_bestRent_51 rfl lk_X8_193 (c_fill (d := 1) (n := 8) (nI c) (so_l1 hsh2 (o := 8) (Or.inr (Or.inl rfl))) (so_t1 hsh2 (o := 8) (Or.inr (Or.inl rfl))) (by decide)) (by omega) (Nat.le_of_ble_eq_true rfl) (fun r S' I' hq => ?_)
        obtain ⟨rfl, rfl, rfl⟩ := hq
        have hPp : Pst 8 S2 I2 (alX tn tx) (aFl (aR T) (nI c)) (fl1 I2 9 8 (nI c)) := ⟨by rw [aC_fl, h8], hal2.mv (sR_n (by decide)) (fun x hx _ => sR_n (by omega)), fun x _ hx => sR_n (by omega)⟩
        refine P_aload0 (pc' := 55) dX8_bestRent_54 rfl ?_
        refine P_getr (pc' := 58) dX8_bestRent_55 rfl fl_X8_16 rfl (l_0 hsh2) (t_0 hsh2) (q_0_1 hsh2) ?_
        refine P_iload1 (pc' := 59) dX8_bestRent_58 rfl ?_
        refine P_aload0 (pc' := 60) dX8_bestRent_59 rfl ?_
        refine P_getr (pc' := 63) dX8_bestRent_60 rfl fl_X8_47 rfl (l_0 hsh2) (t_0 hsh2) (q_0_7 hsh2) ?_
        refine P_callV2 (pc' := 66) dX8_bestRent_63 rfl lk_X8_169 (l_8 hsh2) (t_8 hsh2) (c_X5_passHours (d := 6) (n := n) hsh2 (Or.inr (Or.inl rfl)) hPp.2.1 (by rw [hPp.1]; exact hw2) (by omega) (by omega)) (by omega) (Nat.le_of_ble_eq_true rfl) (fun r S3 I3 hq => ?_)
        obtain ⟨rfl, rfl, hP⟩ := hq
        rw [hPp.1] at hP
        have hz3 := P8_n hP (aHrs_wa hw2)
        have hPt := hPp.tr hP
        have hK3 := hK2.p8 hPt
        have hf3 : ∀ x, 55 ≤ x → x < 77 → I3 x = I0 x := fun x h1 h2 => by rw [hPt.2.2 x (by unfold Scr; omega) (by omega), hf2 x h1 h2]; exact hf x h1 h2
        refine P_aload0 (pc' := 67) dX8_bestRent_66 rfl ?_
        refine P_getr (pc' := 70) dX8_bestRent_67 rfl fl_X8_16 rfl (l_0 hsh2) (t_0 hsh2) (q_0_1 hsh2) ?_
        refine P_callV0 (pc' := 73) dX8_bestRent_70 rfl lk_X8_199 (l_8 hsh2) (t_8 hsh2) (c_X5_anyInDebt (d := 1) (n := n) hsh2 (Or.inr (Or.inl rfl)) hz3 (by omega)) (by omega) (Nat.le_of_ble_eq_true rfl) (fun r S' I' hq => ?_)
        obtain ⟨rfl, rfl, rfl⟩ := hq
        have hch : I3 8 10 = aHrs (alX tn tx) n h (aFl (aR T) (nI c)) 6 := by rw [show I3 8 10 = aC 8 I3 6 from rfl, hP.1]
        refine P_as (show aDebt (aC 8 I3) n 0 = aDebt (aHrs (alX tn tx) n h (aFl (aR T) (nI c))) n 0 by rw [hP.1]) ?_
        refine P_if_ne (tgt := 106) (pc' := 76) dX8_bestRent_73 rfl rfl (fun h73 => ?_) (fun h73 => ?_)
        · refine P_iinc5 (pc' := 109) dX8_bestRent_106 rfl (nI_1 c) (by decide) rfl ?_
          refine P_goto (tgt := 31) dX8_bestRent_109 rfl ?_
          first
            | (rw [selS_n (hfn h73)] at hR; exact ih (c + 1) _ I3 none (by omega) hK3 hf3 hq hR)
            | (rw [selS_0 (hfs h73)] at hR; exact ih (c + 1) _ I3 (some (c, aHrs (alX tn tx) n h (aFl (aR T) (nI c)) 6)) (by omega) hK3 hf3 (fun b m z => by cases z; omega) hR)
        · refine P_iload3 (pc' := 77) dX8_bestRent_76 rfl ?_
          refine P_ldc (pc' := 79) dX8_bestRent_77 rfl co_X8_188 ?_
          refine P_icmp_eq (tgt := 94) (pc' := 82) dX8_bestRent_79 rfl rfl (fun h79 => ?_) (fun h79 => ?_)
          · refine P_iload5 (pc' := 96) dX8_bestRent_94 rfl ?_
            refine P_istore3 (pc' := 97) dX8_bestRent_96 rfl (by decide) rfl ?_
            refine P_aload0 (pc' := 98) dX8_bestRent_97 rfl ?_
            refine P_getr (pc' := 101) dX8_bestRent_98 rfl fl_X8_16 rfl (l_0 hsh2) (t_0 hsh2) (q_0_1 hsh2) ?_
            refine P_geti (pc' := 104) dX8_bestRent_101 rfl fl_X8_176 rfl (l_8 hsh2) (t_8 hsh2) ?_
            refine P_as hch ?_
            refine P_istore4 (pc' := 106) dX8_bestRent_104 rfl (by decide) rfl ?_
            refine P_iinc5 (pc' := 109) dX8_bestRent_106 rfl (nI_1 c) (by decide) rfl ?_
            refine P_goto (tgt := 31) dX8_bestRent_109 rfl ?_
            first
              | (rw [selS_n (hfn h73)] at hR; exact ih (c + 1) _ I3 none (by omega) hK3 hf3 hq hR)
              | (rw [selS_0 (hfs h73)] at hR; exact ih (c + 1) _ I3 (some (c, aHrs (alX tn tx) n h (aFl (aR T) (nI c)) 6)) (by omega) hK3 hf3 (fun b m z => by cases z; omega) hR)
          · exact absurd rfl h79
    | some z =>
      obtain ⟨b', m⟩ := z
      refine P_iload5 (pc' := 33) dX8_bestRent_31 rfl ?_
      refine P_bipush (pc' := 35) dX8_bestRent_33 rfl (v := 9) rfl ?_
      refine P_icmp_gt (tgt := 112) (pc' := 38) dX8_bestRent_35 rfl rfl (fun h35 => ?_) (fun h35 => ?_)
      · exact absurd h35 (Int32.not_lt.mpr (nI_le (a := c) (b := 9) (by omega) (by decide)))
      · refine P_aload0 (pc' := 39) dX8_bestRent_38 rfl ?_
        refine P_callV0 (pc' := 42) dX8_bestRent_39 rfl lk_X8_185 (l_0 hsh) (t_0 hsh) (c_X8_think (d := 6) hK (by omega)) (by omega) (Nat.le_of_ble_eq_true rfl) (fun r S2 I2 hq => ?_)
        obtain ⟨rfl, hK2, hal2, h8, hf2⟩ := hq
        have hsh2 := hK2.2.1
        refine P_aload0 (pc' := 43) dX8_bestRent_42 rfl ?_
        refine P_getr (pc' := 46) dX8_bestRent_43 rfl fl_X8_16 rfl (l_0 hsh2) (t_0 hsh2) (q_0_1 hsh2) ?_
        refine P_getr (pc' := 49) dX8_bestRent_46 rfl fl_X8_139 rfl (l_8 hsh2) (t_8 hsh2) (q_8_0 hsh2) ?_
        refine P_iload5 (pc' := 51) dX8_bestRent_49 rfl ?_
        refine P_callS2 (pc' := 54) dX8_bestRent_51 rfl lk_X8_193 (c_fill (d := 1) (n := 8) (nI c) (so_l1 hsh2 (o := 8) (Or.inr (Or.inl rfl))) (so_t1 hsh2 (o := 8) (Or.inr (Or.inl rfl))) (by decide)) (by omega) (Nat.le_of_ble_eq_true rfl) (fun r S' I' hq => ?_)
        obtain ⟨rfl, rfl, rfl⟩ := hq
        have hPp : Pst 8 S2 I2 (alX tn tx) (aFl (aR T) (nI c)) (fl1 I2 9 8 (nI c)) := ⟨by rw [aC_fl, h8], hal2.mv (sR_n (by decide)) (fun x hx _ => sR_n (by omega)), fun x _ hx => sR_n (by omega)⟩
        refine P_aload0 (pc' := 55) dX8_bestRent_54 rfl ?_
        refine P_getr (pc' := 58) dX8_bestRent_55 rfl fl_X8_16 rfl (l_0 hsh2) (t_0 hsh2) (q_0_1 hsh2) ?_
        refine P_iload1 (pc' := 59) dX8_bestRent_58 rfl ?_
        refine P_aload0 (pc' := 60) dX8_bestRent_59 rfl ?_
        refine P_getr (pc' := 63) dX8_bestRent_60 rfl fl_X8_47 rfl (l_0 hsh2) (t_0 hsh2) (q_0_7 hsh2) ?_
        refine P_callV2 (pc' := 66) dX8_bestRent_63 rfl lk_X8_169 (l_8 hsh2) (t_8 hsh2) (c_X5_passHours (d := 6) (n := n) hsh2 (Or.inr (Or.inl rfl)) hPp.2.1 (by rw [hPp.1]; exact hw2) (by omega) (by omega)) (by omega) (Nat.le_of_ble_eq_true rfl) (fun r S3 I3 hq => ?_)
        obtain ⟨rfl, rfl, hP⟩ := hq
        rw [hPp.1] at hP
        have hz3 := P8_n hP (aHrs_wa hw2)
        have hPt := hPp.tr hP
        have hK3 := hK2.p8 hPt
        have hf3 : ∀ x, 55 ≤ x → x < 77 → I3 x = I0 x := fun x h1 h2 => by rw [hPt.2.2 x (by unfold Scr; omega) (by omega), hf2 x h1 h2]; exact hf x h1 h2
        refine P_aload0 (pc' := 67) dX8_bestRent_66 rfl ?_
        refine P_getr (pc' := 70) dX8_bestRent_67 rfl fl_X8_16 rfl (l_0 hsh2) (t_0 hsh2) (q_0_1 hsh2) ?_
        refine P_callV0 (pc' := 73) dX8_bestRent_70 rfl lk_X8_199 (l_8 hsh2) (t_8 hsh2) (c_X5_anyInDebt (d := 1) (n := n) hsh2 (Or.inr (Or.inl rfl)) hz3 (by omega)) (by omega) (Nat.le_of_ble_eq_true rfl) (fun r S' I' hq => ?_)
        obtain ⟨rfl, rfl, rfl⟩ := hq
        have hch : I3 8 10 = aHrs (alX tn tx) n h (aFl (aR T) (nI c)) 6 := by rw [show I3 8 10 = aC 8 I3 6 from rfl, hP.1]
        refine P_as (show aDebt (aC 8 I3) n 0 = aDebt (aHrs (alX tn tx) n h (aFl (aR T) (nI c))) n 0 by rw [hP.1]) ?_
        refine P_if_ne (tgt := 106) (pc' := 76) dX8_bestRent_73 rfl rfl (fun h73 => ?_) (fun h73 => ?_)
        · refine P_iinc5 (pc' := 109) dX8_bestRent_106 rfl (nI_1 c) (by decide) rfl ?_
          refine P_goto (tgt := 31) dX8_bestRent_109 rfl ?_
          first
            | (rw [selS_n (hfn h73)] at hR; exact ih (c + 1) _ I3 (some (b', m)) (by omega) hK3 hf3 hq hR)
            | (rw [selS_k (m := m) (hfs h73) (Int32.not_lt.mpr h91)] at hR; exact ih (c + 1) _ I3 (some (b', m)) (by omega) hK3 hf3 hq hR)
            | (rw [selS_t (m := m) (hfs h73) (Int32.not_le.mp h91)] at hR; exact ih (c + 1) _ I3 (some (c, aHrs (alX tn tx) n h (aFl (aR T) (nI c)) 6)) (by omega) hK3 hf3 (fun b m z => by cases z; omega) hR)
        · refine P_iload3 (pc' := 77) dX8_bestRent_76 rfl ?_
          refine P_ldc (pc' := 79) dX8_bestRent_77 rfl co_X8_188 ?_
          refine P_icmp_eq (tgt := 94) (pc' := 82) dX8_bestRent_79 rfl rfl (fun h79 => ?_) (fun h79 => ?_)
          · exact absurd h79 (bN_ne (hq _ _ rfl))
          · refine P_aload0 (pc' := 83) dX8_bestRent_82 rfl ?_
            refine P_getr (pc' := 86) dX8_bestRent_83 rfl fl_X8_16 rfl (l_0 hsh2) (t_0 hsh2) (q_0_1 hsh2) ?_
            refine P_geti (pc' := 89) dX8_bestRent_86 rfl fl_X8_176 rfl (l_8 hsh2) (t_8 hsh2) ?_
            refine P_as hch ?_
            refine P_iload4 (pc' := 91) dX8_bestRent_89 rfl ?_
            refine P_icmp_le (tgt := 106) (pc' := 94) dX8_bestRent_91 rfl rfl (fun h91 => ?_) (fun h91 => ?_)
            · refine P_iinc5 (pc' := 109) dX8_bestRent_106 rfl (nI_1 c) (by decide) rfl ?_
              refine P_goto (tgt := 31) dX8_bestRent_109 rfl ?_
              first
                | (rw [selS_n (hfn h73)] at hR; exact ih (c + 1) _ I3 (some (b', m)) (by omega) hK3 hf3 hq hR)
                | (rw [selS_k (m := m) (hfs h73) (Int32.not_lt.mpr h91)] at hR; exact ih (c + 1) _ I3 (some (b', m)) (by omega) hK3 hf3 hq hR)
                | (rw [selS_t (m := m) (hfs h73) (Int32.not_le.mp h91)] at hR; exact ih (c + 1) _ I3 (some (c, aHrs (alX tn tx) n h (aFl (aR T) (nI c)) 6)) (by omega) hK3 hf3 (fun b m z => by cases z; omega) hR)
            · refine P_iload5 (pc' := 96) dX8_bestRent_94 rfl ?_
              refine P_istore3 (pc' := 97) dX8_bestRent_96 rfl (by decide) rfl ?_
              refine P_aload0 (pc' := 98) dX8_bestRent_97 rfl ?_
              refine P_getr (pc' := 101) dX8_bestRent_98 rfl fl_X8_16 rfl (l_0 hsh2) (t_0 hsh2) (q_0_1 hsh2) ?_
              refine P_geti (pc' := 104) dX8_bestRent_101 rfl fl_X8_176 rfl (l_8 hsh2) (t_8 hsh2) ?_
              refine P_as hch ?_
              refine P_istore4 (pc' := 106) dX8_bestRent_104 rfl (by decide) rfl ?_
              refine P_iinc5 (pc' := 109) dX8_bestRent_106 rfl (nI_1 c) (by decide) rfl ?_
              refine P_goto (tgt := 31) dX8_bestRent_109 rfl ?_
              first
                | (rw [selS_n (hfn h73)] at hR; exact ih (c + 1) _ I3 (some (b', m)) (by omega) hK3 hf3 hq hR)
                | (rw [selS_k (m := m) (hfs h73) (Int32.not_lt.mpr h91)] at hR; exact ih (c + 1) _ I3 (some (b', m)) (by omega) hK3 hf3 hq hR)
                | (rw [selS_t (m := m) (hfs h73) (Int32.not_le.mp h91)] at hR; exact ih (c + 1) _ I3 (some (c, aHrs (alX tn tx) n h (aFl (aR T) (nI c)) 6)) (by omega) hK3 hf3 (fun b m z => by cases z; omega) hR)
def vRen (al : Int32 → Int32 → Int32 → Int32) (A : Nat → Int32) (v y : Int32) : Int32 := if wi v 1 60 = 0 then -1000000001 else if wi y 0 1 = 0 then -1000000001 else resV y (sel (fRen al A (A 1).toNatClampNeg v.toNatClampNeg) 10 0 none)
theorem x_bestRent {G : GX} {S : Shp} {I T : Mem} {d tn bn : Nat} {tx : Nat → Tx} (hK : K S I T tn bn tx) (v y : Int32) (hd : 12 ≤ d) : PM G yX8_bestRent cX8_bestRent 6 (some .int) d 0 0 [.ref 0, .int v, .int y] S I (CO I T tn bn tx (vRen (alX tn tx) (aR T) v y)) := by
  obtain ⟨n, hn, hw, hA, hz, ht⟩ := hK.n
  have hsh := hK.2.1
  have ev : vRen (alX tn tx) (aR T) v y = if wi v 1 60 = 0 then -1000000001 else if wi y 0 1 = 0 then -1000000001 else resV y (sel (fRen (alX tn tx) (aR T) n v.toNatClampNeg) 10 0 none) := by unfold vRen; rw [hw.1, nI_clamp (by omega)]
  rw [ev]
  refine PM.of (ls := [some (.ref 0), some (.int v), some (.int y), none, none, none]) (by decide) rfl (Nat.le_of_ble_eq_true rfl) rfl ?_
  show PW G RX8 "bestRent" _ _ _ _ _ _ _ _ _ _ _ _
  refine P_iload1 (pc' := 1) dX8_bestRent_0 rfl ?_
  refine P_iconst (pc' := 2) dX8_bestRent_1 rfl (v := 1) rfl ?_
  refine P_bipush (pc' := 4) dX8_bestRent_2 rfl (v := 60) rfl ?_
  refine P_callS3 (pc' := 7) dX8_bestRent_4 rfl lk_X8_77 (c_X8_wi (d := 0) v 1 60) (by omega) (Nat.le_of_ble_eq_true rfl) (fun r S' I' hq => ?_)
  obtain ⟨rfl, rfl, rfl⟩ := hq
  refine P_if_eq (tgt := 19) (pc' := 10) dX8_bestRent_7 rfl rfl (fun h7 => ?_) (fun h7 => ?_)
  · refine P_ldc (pc' := 21) dX8_bestRent_19 rfl co_X8_81 ?_
    refine P_iret dX8_bestRent_21 ?_
    first
      | (rw [if_pos h7]; exact CO.id hK)
      | (rw [if_neg h7, if_pos h16]; exact CO.id hK)
  · refine P_iload2 (pc' := 11) dX8_bestRent_10 rfl ?_
    refine P_iconst (pc' := 12) dX8_bestRent_11 rfl (v := 0) rfl ?_
    refine P_iconst (pc' := 13) dX8_bestRent_12 rfl (v := 1) rfl ?_
    refine P_callS3 (pc' := 16) dX8_bestRent_13 rfl lk_X8_77 (c_X8_wi (d := 0) y 0 1) (by omega) (Nat.le_of_ble_eq_true rfl) (fun r S' I' hq => ?_)
    obtain ⟨rfl, rfl, rfl⟩ := hq
    refine P_if_ne (tgt := 22) (pc' := 19) dX8_bestRent_16 rfl rfl (fun h16 => ?_) (fun h16 => ?_)
    · refine P_ldc (pc' := 24) dX8_bestRent_22 rfl co_X8_188 ?_
      refine P_istore3 (pc' := 25) dX8_bestRent_24 rfl (by decide) rfl ?_
      refine P_iconst (pc' := 26) dX8_bestRent_25 rfl (v := 0) rfl ?_
      refine P_istore4 (pc' := 28) dX8_bestRent_26 rfl (by decide) rfl ?_
      refine P_iconst (pc' := 29) dX8_bestRent_28 rfl (v := 0) rfl ?_
      refine P_istore5 (pc' := 31) dX8_bestRent_29 rfl (by decide) rfl ?_
      rw [if_neg h7, if_neg h16]
      obtain ⟨i, i1, i2, rfl⟩ := wi_b1 (m := 60) (by decide) h7
      rw [nI_clamp (by omega)]
      exact lp_X8_bestRent hw hn (by omega) hd 10 0 S I none (by omega) hK (fun _ _ _ => rfl) (fun _ _ z => by cases z) rfl
    · refine P_ldc (pc' := 21) dX8_bestRent_19 rfl co_X8_81 ?_
      refine P_iret dX8_bestRent_21 ?_
      first
        | (rw [if_pos h7]; exact CO.id hK)
        | (rw [if_neg h7, if_pos h16]; exact CO.id hK)
/-! letting -/
theorem dgt_lt (y q b : Nat) : dgt y q b < 8 := Nat.mod_lt _ (by decide)
theorem aDn_wa {y q n : Nat} : ∀ (b : Nat) (A : Nat → Int32), b ≤ 9 → WA A n → WA (aDn y q b A) n := by
  intro b
  induction b with
  | zero => intro A _ h; exact h
  | succ b ih =>
    intro A hb h
    rw [aDn_s]
    exact ih _ (by omega) (h.wc (by omega) (by have := dgt_lt y q b; omega))
def fLet (al : Int32 → Int32 → Int32 → Int32) (A : Nat → Int32) (n q h : Nat) : Nat → Option Int32 := fun y => if aAgs (aDn y q q A) n 0 0 = 0 then some (aSum (aHrs al n h (aDn y q q A)) 19 n) else none
theorem lp_X8_letting {G : GX} {I0 T : Mem} {d tn bn n h u e : Nat} {tx : Nat → Tx} {y : Int32} {R : Option (Nat × Int32)} (hw : WA (aR T) n) (hn : n ≤ 8) (hu : u ≤ 3) (hun : u ≤ n) (he : e = 8 ^ u) (hh : h ≤ 100) (hd : 12 ≤ d) : ∀ (k c : Nat) (S : Shp) (I : Mem) (q : Option (Nat × Int32)) (x8 : Option Value), c + k = e → K S I T tn bn tx → (∀ x, 55 ≤ x → x < 77 → I x = I0 x) → (∀ b m, q = some (b, m) → b < 1000) → sel (fLet (alX tn tx) (aR T) n u h) k c q = R → PW G RX8 "letting" cX8_letting 9 (some .int) d 0 0 (CO I0 T tn bn tx (resV y R)) 63 [some (.ref 0), some (.int (nI h)), some (.int y), some (.int (nI u)), some (.int (nI e)), some (.int (bN q)), some (.int (mC q)), some (.int (nI c)), x8] [] S I := by
  have he5 : e ≤ 512 := by rw [he]; exact Nat.pow_le_pow_right (by decide) hu
  intro k
  induction k with
  | zero =>
    intro c S I q x8 hc hK hf hq hR
    have hsh := hK.2.1
    have hR : q = R := hR
    subst hR
    cases q with
    | none =>
      refine P_iload7 (pc' := 65) dX8_letting_63 rfl ?_
      refine P_iload4 (pc' := 67) dX8_letting_65 rfl ?_
      refine P_icmp_ge (tgt := 146) (pc' := 70) dX8_letting_67 rfl rfl (fun h67 => ?_) (fun h67 => ?_)
      · refine P_iload2 (pc' := 147) dX8_letting_146 rfl ?_
        refine P_if_eq (tgt := 157) (pc' := 150) dX8_letting_147 rfl rfl (fun h147 => ?_) (fun h147 => ?_)
        · refine P_iload5 (pc' := 159) dX8_letting_157 rfl ?_
          refine P_goto (tgt := 164) dX8_letting_159 rfl ?_
          refine P_iret dX8_letting_164 ?_
          exact ⟨rfl, hK, hf⟩
        · refine P_iload5 (pc' := 152) dX8_letting_150 rfl ?_
          refine P_ldc (pc' := 154) dX8_letting_152 rfl co_X8_188 ?_
          refine P_icmp_ne (tgt := 162) (pc' := 157) dX8_letting_154 rfl rfl (fun h154 => ?_) (fun h154 => ?_)
          · exact absurd rfl h154
          · refine P_iload5 (pc' := 159) dX8_letting_157 rfl ?_
            refine P_goto (tgt := 164) dX8_letting_159 rfl ?_
            refine P_iret dX8_letting_164 ?_
            exact ⟨rfl, hK, hf⟩
      · exact absurd (nI_le (by omega) (by omega)) h67
    | some z =>
      obtain ⟨b', m⟩ := z
      refine P_iload7 (pc' := 65) dX8_letting_63 rfl ?_
      refine P_iload4 (pc' := 67) dX8_letting_65 rfl ?_
      refine P_icmp_ge (tgt := 146) (pc' := 70) dX8_letting_67 rfl rfl (fun h67 => ?_) (fun h67 => ?_)
      · refine P_iload2 (pc' := 147) dX8_letting_146 rfl ?_
        refine P_if_eq (tgt := 157) (pc' := 150) dX8_letting_147 rfl rfl (fun h147 => ?_) (fun h147 => ?_)
        · refine P_iload5 (pc' := 159) dX8_letting_157 rfl ?_
          refine P_goto (tgt := 164) dX8_letting_159 rfl ?_
          refine P_iret dX8_letting_164 ?_
          first
            | (rw [show resV y (some (b', m)) = nI b' from if_pos h147]; exact ⟨rfl, hK, hf⟩)
            | (rw [show resV y (some (b', m)) = m from if_neg h147]; exact ⟨rfl, hK, hf⟩)
        · refine P_iload5 (pc' := 152) dX8_letting_150 rfl ?_
          refine P_ldc (pc' := 154) dX8_letting_152 rfl co_X8_188 ?_
          refine P_icmp_ne (tgt := 162) (pc' := 157) dX8_letting_154 rfl rfl (fun h154 => ?_) (fun h154 => ?_)
          · refine P_iload6 (pc' := 164) dX8_letting_162 rfl ?_
            refine P_iret dX8_letting_164 ?_
            first
              | (rw [show resV y (some (b', m)) = nI b' from if_pos h147]; exact ⟨rfl, hK, hf⟩)
              | (rw [show resV y (some (b', m)) = m from if_neg h147]; exact ⟨rfl, hK, hf⟩)
          · exact absurd h154 (bN_ne (hq _ _ rfl))
      · exact absurd (nI_le (by omega) (by omega)) h67
  | succ k ih =>
    intro c S I q x8 hc hK hf hq hR
    have hsh := hK.2.1
    rw [sel_s] at hR
    have hw2 : WA (aDn c u u (aR T)) n := aDn_wa u _ (by omega) hw
    have hfn : ¬ aAgs (aDn c u u (aR T)) n 0 0 = 0 → fLet (alX tn tx) (aR T) n u h c = none := fun z => if_neg z
    have hfs : aAgs (aDn c u u (aR T)) n 0 0 = 0 → fLet (alX tn tx) (aR T) n u h c = some (aSum (aHrs (alX tn tx) n h (aDn c u u (aR T))) 19 n) := fun z => if_pos z
    cases q with
    | none =>
      refine P_iload7 (pc' := 65) dX8_letting_63 rfl ?_
      refine P_iload4 (pc' := 67) dX8_letting_65 rfl ?_
      refine P_icmp_ge (tgt := 146) (pc' := 70) dX8_letting_67 rfl rfl (fun h67 => ?_) (fun h67 => ?_)
      · exact absurd h67 (nI_ge (by omega) (by omega))
      · refine P_aload0 (pc' := 71) dX8_letting_70 rfl ?_
        refine P_callV0 (pc' := 74) dX8_letting_71 rfl lk_X8_185 (l_0 hsh) (t_0 hsh) (c_X8_think (d := 6) hK (by omega)) (by omega) (Nat.le_of_ble_eq_true rfl) (fun r S2 I2 hq => ?_)
        obtain ⟨rfl, hK2, hal2, h8, hf2⟩ := hq
        have hsh2 := hK2.2.1
        refine P_aload0 (pc' := 75) dX8_letting_74 rfl ?_
        refine P_getr (pc' := 78) dX8_letting_75 rfl fl_X8_16 rfl (l_0 hsh2) (t_0 hsh2) (q_0_1 hsh2) ?_
        refine P_iload7 (pc' := 80) dX8_letting_78 rfl ?_
        refine P_iload3 (pc' := 81) dX8_letting_80 rfl ?_
        refine P_callV2 (pc' := 84) dX8_letting_81 rfl lk_X8_189 (l_8 hsh2) (t_8 hsh2) (c_X5_letOut (d := 1) (n := n) hsh2 (Or.inr (Or.inl rfl)) (by have e : aC 8 I2 1 = I2 8 6 := rfl; rw [← e, h8]; exact hw.1) (by omega) hun) (by omega) (Nat.le_of_ble_eq_true rfl) (fun r S4 I4 hq => ?_)
        obtain ⟨rfl, rfl, hJ4, hF4⟩ := hq
        rw [h8, aLet_dn hu (by omega)] at hJ4
        have hPp : Pst 8 S2 I2 (alX tn tx) (aDn c u u (aR T)) I4 := ⟨hJ4, hF4.al (Or.inr (Or.inl rfl)) hal2, fun x _ hx => hF4 x hx⟩
        have hz4 := P8_n hPp hw2
        refine P_aload0 (pc' := 85) dX8_letting_84 rfl ?_
        refine P_getr (pc' := 88) dX8_letting_85 rfl fl_X8_16 rfl (l_0 hsh2) (t_0 hsh2) (q_0_1 hsh2) ?_
        refine P_callV0 (pc' := 91) dX8_letting_88 rfl lk_X8_179 (l_8 hsh2) (t_8 hsh2) (c_X5_againstLaw (d := 5) (n := n) hsh2 (Or.inr (Or.inl rfl)) hz4 (by omega) (by omega)) (by omega) (Nat.le_of_ble_eq_true rfl) (fun r S' I' hq => ?_)
        obtain ⟨rfl, rfl, rfl⟩ := hq
        refine P_as (show aAgs (aC 8 I4) n 0 0 = aAgs (aDn c u u (aR T)) n 0 0 by rw [hJ4]) ?_
        refine P_if_eq (tgt := 97) (pc' := 94) dX8_letting_91 rfl rfl (fun h91 => ?_) (fun h91 => ?_)
        · refine P_aload0 (pc' := 98) dX8_letting_97 rfl ?_
          refine P_getr (pc' := 101) dX8_letting_98 rfl fl_X8_16 rfl (l_0 hsh2) (t_0 hsh2) (q_0_1 hsh2) ?_
          refine P_iload1 (pc' := 102) dX8_letting_101 rfl ?_
          refine P_aload0 (pc' := 103) dX8_letting_102 rfl ?_
          refine P_getr (pc' := 106) dX8_letting_103 rfl fl_X8_47 rfl (l_0 hsh2) (t_0 hsh2) (q_0_7 hsh2) ?_
          refine P_callV2 (pc' := 109) dX8_letting_106 rfl lk_X8_169 (l_8 hsh2) (t_8 hsh2) (c_X5_passHours (d := 6) (n := n) hsh2 (Or.inr (Or.inl rfl)) hPp.2.1 (by rw [hPp.1]; exact hw2) (by omega) (by omega)) (by omega) (Nat.le_of_ble_eq_true rfl) (fun r S3 I3 hq => ?_)
          obtain ⟨rfl, rfl, hP⟩ := hq
          rw [hPp.1] at hP
          have hz3 := P8_n hP (aHrs_wa hw2)
          have hPt := hPp.tr hP
          have hK3 := hK2.p8 hPt
          have hf3 : ∀ x, 55 ≤ x → x < 77 → I3 x = I0 x := fun x h1 h2 => by rw [hPt.2.2 x (by unfold Scr; omega) (by omega), hf2 x h1 h2]; exact hf x h1 h2
          refine P_aload0 (pc' := 110) dX8_letting_109 rfl ?_
          refine P_getr (pc' := 113) dX8_letting_110 rfl fl_X8_16 rfl (l_0 hsh2) (t_0 hsh2) (q_0_1 hsh2) ?_
          refine P_callV0 (pc' := 116) dX8_letting_113 rfl lk_X8_173 (l_8 hsh2) (t_8 hsh2) (c_X5_allPurses (d := 1) (n := n) hsh2 (Or.inr (Or.inl rfl)) hz3 (by omega)) (by omega) (Nat.le_of_ble_eq_true rfl) (fun r S' I' hq => ?_)
          obtain ⟨rfl, rfl, rfl⟩ := hq
          refine P_as (show aSum (aC 8 I3) 19 n = aSum (aHrs (alX tn tx) n h (aDn c u u (aR T))) 19 n by rw [hP.1]) ?_
          refine P_istore8 (pc' := 118) dX8_letting_116 rfl (by decide) rfl ?_
          refine P_iload5 (pc' := 120) dX8_letting_118 rfl ?_
          refine P_ldc (pc' := 122) dX8_letting_120 rfl co_X8_188 ?_
          refine P_icmp_eq (tgt := 132) (pc' := 125) dX8_letting_122 rfl rfl (fun h122 => ?_) (fun h122 => ?_)
          · refine P_iload7 (pc' := 134) dX8_letting_132 rfl ?_
            refine P_istore5 (pc' := 136) dX8_letting_134 rfl (by decide) rfl ?_
            refine P_iload8 (pc' := 138) dX8_letting_136 rfl ?_
            refine P_istore6 (pc' := 140) dX8_letting_138 rfl (by decide) rfl ?_
            refine P_iinc7 (pc' := 143) dX8_letting_140 rfl (nI_1 c) (by decide) rfl ?_
            refine P_goto (tgt := 63) dX8_letting_143 rfl ?_
            first
              | (rw [selS_n (hfn h91)] at hR; exact ih (c + 1) _ I4 none _ (by omega) (hK2.p8 hPp) (fun x h1 h2 => by rw [hPp.2.2 x (by unfold Scr; omega) (by omega), hf2 x h1 h2]; exact hf x h1 h2) hq hR)
              | (rw [selS_0 (hfs h91)] at hR; exact ih (c + 1) _ I3 (some (c, aSum (aHrs (alX tn tx) n h (aDn c u u (aR T))) 19 n)) _ (by omega) hK3 hf3 (fun b m z => by cases z; omega) hR)
          · exact absurd rfl h122
        · refine P_goto (tgt := 140) dX8_letting_94 rfl ?_
          refine P_iinc7 (pc' := 143) dX8_letting_140 rfl (nI_1 c) (by decide) rfl ?_
          refine P_goto (tgt := 63) dX8_letting_143 rfl ?_
          first
            | (rw [selS_n (hfn h91)] at hR; exact ih (c + 1) _ I4 none _ (by omega) (hK2.p8 hPp) (fun x h1 h2 => by rw [hPp.2.2 x (by unfold Scr; omega) (by omega), hf2 x h1 h2]; exact hf x h1 h2) hq hR)
            | (rw [selS_0 (hfs h91)] at hR; exact ih (c + 1) _ I3 (some (c, aSum (aHrs (alX tn tx) n h (aDn c u u (aR T))) 19 n)) _ (by omega) hK3 hf3 (fun b m z => by cases z; omega) hR)
    | some z =>
      obtain ⟨b', m⟩ := z
      refine P_iload7 (pc' := 65) dX8_letting_63 rfl ?_
      refine P_iload4 (pc' := 67) dX8_letting_65 rfl ?_
      refine P_icmp_ge (tgt := 146) (pc' := 70) dX8_letting_67 rfl rfl (fun h67 => ?_) (fun h67 => ?_)
      · exact absurd h67 (nI_ge (by omega) (by omega))
      · refine P_aload0 (pc' := 71) dX8_letting_70 rfl ?_
        refine P_callV0 (pc' := 74) dX8_letting_71 rfl lk_X8_185 (l_0 hsh) (t_0 hsh) (c_X8_think (d := 6) hK (by omega)) (by omega) (Nat.le_of_ble_eq_true rfl) (fun r S2 I2 hq => ?_)
        obtain ⟨rfl, hK2, hal2, h8, hf2⟩ := hq
        have hsh2 := hK2.2.1
        refine P_aload0 (pc' := 75) dX8_letting_74 rfl ?_
        refine P_getr (pc' := 78) dX8_letting_75 rfl fl_X8_16 rfl (l_0 hsh2) (t_0 hsh2) (q_0_1 hsh2) ?_
        refine P_iload7 (pc' := 80) dX8_letting_78 rfl ?_
        refine P_iload3 (pc' := 81) dX8_letting_80 rfl ?_
        refine P_callV2 (pc' := 84) dX8_letting_81 rfl lk_X8_189 (l_8 hsh2) (t_8 hsh2) (c_X5_letOut (d := 1) (n := n) hsh2 (Or.inr (Or.inl rfl)) (by have e : aC 8 I2 1 = I2 8 6 := rfl; rw [← e, h8]; exact hw.1) (by omega) hun) (by omega) (Nat.le_of_ble_eq_true rfl) (fun r S4 I4 hq => ?_)
        obtain ⟨rfl, rfl, hJ4, hF4⟩ := hq
        rw [h8, aLet_dn hu (by omega)] at hJ4
        have hPp : Pst 8 S2 I2 (alX tn tx) (aDn c u u (aR T)) I4 := ⟨hJ4, hF4.al (Or.inr (Or.inl rfl)) hal2, fun x _ hx => hF4 x hx⟩
        have hz4 := P8_n hPp hw2
        refine P_aload0 (pc' := 85) dX8_letting_84 rfl ?_
        refine P_getr (pc' := 88) dX8_letting_85 rfl fl_X8_16 rfl (l_0 hsh2) (t_0 hsh2) (q_0_1 hsh2) ?_
        refine P_callV0 (pc' := 91) dX8_letting_88 rfl lk_X8_179 (l_8 hsh2) (t_8 hsh2) (c_X5_againstLaw (d := 5) (n := n) hsh2 (Or.inr (Or.inl rfl)) hz4 (by omega) (by omega)) (by omega) (Nat.le_of_ble_eq_true rfl) (fun r S' I' hq => ?_)
        obtain ⟨rfl, rfl, rfl⟩ := hq
        refine P_as (show aAgs (aC 8 I4) n 0 0 = aAgs (aDn c u u (aR T)) n 0 0 by rw [hJ4]) ?_
        refine P_if_eq (tgt := 97) (pc' := 94) dX8_letting_91 rfl rfl (fun h91 => ?_) (fun h91 => ?_)
        · refine P_aload0 (pc' := 98) dX8_letting_97 rfl ?_
          refine P_getr (pc' := 101) dX8_letting_98 rfl fl_X8_16 rfl (l_0 hsh2) (t_0 hsh2) (q_0_1 hsh2) ?_
          refine P_iload1 (pc' := 102) dX8_letting_101 rfl ?_
          refine P_aload0 (pc' := 103) dX8_letting_102 rfl ?_
          refine P_getr (pc' := 106) dX8_letting_103 rfl fl_X8_47 rfl (l_0 hsh2) (t_0 hsh2) (q_0_7 hsh2) ?_
          refine P_callV2 (pc' := 109) dX8_letting_106 rfl lk_X8_169 (l_8 hsh2) (t_8 hsh2) (c_X5_passHours (d := 6) (n := n) hsh2 (Or.inr (Or.inl rfl)) hPp.2.1 (by rw [hPp.1]; exact hw2) (by omega) (by omega)) (by omega) (Nat.le_of_ble_eq_true rfl) (fun r S3 I3 hq => ?_)
          obtain ⟨rfl, rfl, hP⟩ := hq
          rw [hPp.1] at hP
          have hz3 := P8_n hP (aHrs_wa hw2)
          have hPt := hPp.tr hP
          have hK3 := hK2.p8 hPt
          have hf3 : ∀ x, 55 ≤ x → x < 77 → I3 x = I0 x := fun x h1 h2 => by rw [hPt.2.2 x (by unfold Scr; omega) (by omega), hf2 x h1 h2]; exact hf x h1 h2
          refine P_aload0 (pc' := 110) dX8_letting_109 rfl ?_
          refine P_getr (pc' := 113) dX8_letting_110 rfl fl_X8_16 rfl (l_0 hsh2) (t_0 hsh2) (q_0_1 hsh2) ?_
          refine P_callV0 (pc' := 116) dX8_letting_113 rfl lk_X8_173 (l_8 hsh2) (t_8 hsh2) (c_X5_allPurses (d := 1) (n := n) hsh2 (Or.inr (Or.inl rfl)) hz3 (by omega)) (by omega) (Nat.le_of_ble_eq_true rfl) (fun r S' I' hq => ?_)
          obtain ⟨rfl, rfl, rfl⟩ := hq
          refine P_as (show aSum (aC 8 I3) 19 n = aSum (aHrs (alX tn tx) n h (aDn c u u (aR T))) 19 n by rw [hP.1]) ?_
          refine P_istore8 (pc' := 118) dX8_letting_116 rfl (by decide) rfl ?_
          refine P_iload5 (pc' := 120) dX8_letting_118 rfl ?_
          refine P_ldc (pc' := 122) dX8_letting_120 rfl co_X8_188 ?_
          refine P_icmp_eq (tgt := 132) (pc' := 125) dX8_letting_122 rfl rfl (fun h122 => ?_) (fun h122 => ?_)
          · exact absurd h122 (bN_ne (hq _ _ rfl))
          · refine P_iload8 (pc' := 127) dX8_letting_125 rfl ?_
            refine P_iload6 (pc' := 129) dX8_letting_127 rfl ?_
            refine P_icmp_le (tgt := 140) (pc' := 132) dX8_letting_129 rfl rfl (fun h129 => ?_) (fun h129 => ?_)
            · refine P_iinc7 (pc' := 143) dX8_letting_140 rfl (nI_1 c) (by decide) rfl ?_
              refine P_goto (tgt := 63) dX8_letting_143 rfl ?_
              first
                | (rw [selS_n (hfn h91)] at hR; exact ih (c + 1) _ I4 (some (b', m)) _ (by omega) (hK2.p8 hPp) (fun x h1 h2 => by rw [hPp.2.2 x (by unfold Scr; omega) (by omega), hf2 x h1 h2]; exact hf x h1 h2) hq hR)
                | (rw [selS_k (m := m) (hfs h91) (Int32.not_lt.mpr h129)] at hR; exact ih (c + 1) _ I3 (some (b', m)) _ (by omega) hK3 hf3 hq hR)
                | (rw [selS_t (m := m) (hfs h91) (Int32.not_le.mp h129)] at hR; exact ih (c + 1) _ I3 (some (c, aSum (aHrs (alX tn tx) n h (aDn c u u (aR T))) 19 n)) _ (by omega) hK3 hf3 (fun b m z => by cases z; omega) hR)
            · refine P_iload7 (pc' := 134) dX8_letting_132 rfl ?_
              refine P_istore5 (pc' := 136) dX8_letting_134 rfl (by decide) rfl ?_
              refine P_iload8 (pc' := 138) dX8_letting_136 rfl ?_
              refine P_istore6 (pc' := 140) dX8_letting_138 rfl (by decide) rfl ?_
              refine P_iinc7 (pc' := 143) dX8_letting_140 rfl (nI_1 c) (by decide) rfl ?_
              refine P_goto (tgt := 63) dX8_letting_143 rfl ?_
              first
                | (rw [selS_n (hfn h91)] at hR; exact ih (c + 1) _ I4 (some (b', m)) _ (by omega) (hK2.p8 hPp) (fun x h1 h2 => by rw [hPp.2.2 x (by unfold Scr; omega) (by omega), hf2 x h1 h2]; exact hf x h1 h2) hq hR)
                | (rw [selS_k (m := m) (hfs h91) (Int32.not_lt.mpr h129)] at hR; exact ih (c + 1) _ I3 (some (b', m)) _ (by omega) hK3 hf3 hq hR)
                | (rw [selS_t (m := m) (hfs h91) (Int32.not_le.mp h129)] at hR; exact ih (c + 1) _ I3 (some (c, aSum (aHrs (alX tn tx) n h (aDn c u u (aR T))) 19 n)) _ (by omega) hK3 hf3 (fun b m z => by cases z; omega) hR)
        · refine P_goto (tgt := 140) dX8_letting_94 rfl ?_
          refine P_iinc7 (pc' := 143) dX8_letting_140 rfl (nI_1 c) (by decide) rfl ?_
          refine P_goto (tgt := 63) dX8_letting_143 rfl ?_
          first
            | (rw [selS_n (hfn h91)] at hR; exact ih (c + 1) _ I4 (some (b', m)) _ (by omega) (hK2.p8 hPp) (fun x h1 h2 => by rw [hPp.2.2 x (by unfold Scr; omega) (by omega), hf2 x h1 h2]; exact hf x h1 h2) hq hR)
            | (rw [selS_k (m := m) (hfs h91) (Int32.not_lt.mpr h129)] at hR; exact ih (c + 1) _ I3 (some (b', m)) _ (by omega) hK3 hf3 hq hR)
            | (rw [selS_t (m := m) (hfs h91) (Int32.not_le.mp h129)] at hR; exact ih (c + 1) _ I3 (some (c, aSum (aHrs (alX tn tx) n h (aDn c u u (aR T))) 19 n)) _ (by omega) hK3 hf3 (fun b m z => by cases z; omega) hR)
def vLet (al : Int32 → Int32 → Int32 → Int32) (A : Nat → Int32) (v y : Int32) : Int32 := if wi v 1 4 = 0 then -1000000001 else if wi y 0 1 = 0 then -1000000001 else if A 1 = 0 then -1000000005 else resV y (sel (fLet al A (A 1).toNatClampNeg (min (A 1).toNatClampNeg 3) v.toNatClampNeg) (8 ^ (min (A 1).toNatClampNeg 3)) 0 none)
theorem x_letting {G : GX} {S : Shp} {I T : Mem} {d tn bn : Nat} {tx : Nat → Tx} (hK : K S I T tn bn tx) (v y : Int32) (hd : 12 ≤ d) : PM G yX8_letting cX8_letting 9 (some .int) d 0 0 [.ref 0, .int v, .int y] S I (CO I T tn bn tx (vLet (alX tn tx) (aR T) v y)) := by
  obtain ⟨n, hn, hw, hA, hz, ht⟩ := hK.n
  have hsh := hK.2.1
  have ev : vLet (alX tn tx) (aR T) v y = if wi v 1 4 = 0 then -1000000001 else if wi y 0 1 = 0 then -1000000001 else if nI n = 0 then -1000000005 else resV y (sel (fLet (alX tn tx) (aR T) n (min n 3) v.toNatClampNeg) (8 ^ (min n 3)) 0 none) := by unfold vLet; rw [hw.1, nI_clamp (by omega)]
  rw [ev]
  refine PM.of (ls := [some (.ref 0), some (.int v), some (.int y), none, none, none, none, none, none]) (by decide) rfl (Nat.le_of_ble_eq_true rfl) rfl ?_
  show PW G RX8 "letting" _ _ _ _ _ _ _ _ _ _ _ _
  refine P_iload1 (pc' := 1) dX8_letting_0 rfl ?_
  refine P_iconst (pc' := 2) dX8_letting_1 rfl (v := 1) rfl ?_
  refine P_iconst (pc' := 3) dX8_letting_2 rfl (v := 4) rfl ?_
  refine P_callS3 (pc' := 6) dX8_letting_3 rfl lk_X8_77 (c_X8_wi (d := 0) v 1 4) (by omega) (Nat.le_of_ble_eq_true rfl) (fun r S' I' hq => ?_)
  obtain ⟨rfl, rfl, rfl⟩ := hq
  refine P_if_eq (tgt := 18) (pc' := 9) dX8_letting_6 rfl rfl (fun h6 => ?_) (fun h6 => ?_)
  · refine P_ldc (pc' := 20) dX8_letting_18 rfl co_X8_81 ?_
    refine P_iret dX8_letting_20 ?_
    first
      | (rw [if_pos h6]; exact CO.id hK)
      | (rw [if_neg h6, if_pos h15]; exact CO.id hK)
  · refine P_iload2 (pc' := 10) dX8_letting_9 rfl ?_
    refine P_iconst (pc' := 11) dX8_letting_10 rfl (v := 0) rfl ?_
    refine P_iconst (pc' := 12) dX8_letting_11 rfl (v := 1) rfl ?_
    refine P_callS3 (pc' := 15) dX8_letting_12 rfl lk_X8_77 (c_X8_wi (d := 0) y 0 1) (by omega) (Nat.le_of_ble_eq_true rfl) (fun r S' I' hq => ?_)
    obtain ⟨rfl, rfl, rfl⟩ := hq
    refine P_if_ne (tgt := 21) (pc' := 18) dX8_letting_15 rfl rfl (fun h15 => ?_) (fun h15 => ?_)
    · refine P_aload0 (pc' := 22) dX8_letting_21 rfl ?_
      refine P_getr (pc' := 25) dX8_letting_22 rfl fl_X8_10 rfl (l_0 hsh) (t_0 hsh) (q_0_0 hsh) ?_
      refine P_geti (pc' := 28) dX8_letting_25 rfl fl_X8_82 rfl (l_1 hsh) (t_1 hsh) ?_
      refine P_as hz ?_
      refine P_if_ne (tgt := 34) (pc' := 31) dX8_letting_28 rfl rfl (fun h28 => ?_) (fun h28 => ?_)
      · refine P_iconst (pc' := 35) dX8_letting_34 rfl (v := 3) rfl ?_
        refine P_aload0 (pc' := 36) dX8_letting_35 rfl ?_
        refine P_getr (pc' := 39) dX8_letting_36 rfl fl_X8_10 rfl (l_0 hsh) (t_0 hsh) (q_0_0 hsh) ?_
        refine P_geti (pc' := 42) dX8_letting_39 rfl fl_X8_82 rfl (l_1 hsh) (t_1 hsh) ?_
        refine P_as hz ?_
        refine P_min (pc' := 45) dX8_letting_42 rfl lk_X8_151 (by omega) (Nat.le_of_ble_eq_true rfl) ?_
        refine P_as (y := nI (min n 3)) (by show (if nI n < nI 3 then nI n else nI 3) = nI (min n 3); rw [nI_min (a := 3) (b := n) (by decide) (by omega), Nat.min_comm]) ?_
        refine P_istore3 (pc' := 46) dX8_letting_45 rfl (by decide) rfl ?_
        refine P_iconst (pc' := 47) dX8_letting_46 rfl (v := 1) rfl ?_
        refine P_iconst (pc' := 48) dX8_letting_47 rfl (v := 3) rfl ?_
        refine P_iload3 (pc' := 49) dX8_letting_48 rfl ?_
        refine P_imul (pc' := 50) dX8_letting_49 rfl ?_
        refine P_ishl (pc' := 51) dX8_letting_50 rfl ?_
        have n0 : n ≠ 0 := fun z => h28 (by rw [z]; rfl)
        refine P_as (y := nI (8 ^ (min n 3))) (sh_8 (by omega)) ?_
        refine P_istore4 (pc' := 53) dX8_letting_51 rfl (by decide) rfl ?_
        refine P_ldc (pc' := 55) dX8_letting_53 rfl co_X8_188 ?_
        refine P_istore5 (pc' := 57) dX8_letting_55 rfl (by decide) rfl ?_
        refine P_iconst (pc' := 58) dX8_letting_57 rfl (v := 0) rfl ?_
        refine P_istore6 (pc' := 60) dX8_letting_58 rfl (by decide) rfl ?_
        refine P_iconst (pc' := 61) dX8_letting_60 rfl (v := 0) rfl ?_
        refine P_istore7 (pc' := 63) dX8_letting_61 rfl (by decide) rfl ?_
        rw [if_neg h6, if_neg h15, if_neg h28]
        obtain ⟨i, i1, i2, rfl⟩ := wi_b1 (m := 4) (by decide) h6
        rw [nI_clamp (by omega)]
        exact lp_X8_letting hw hn (by omega) (by omega) rfl (by omega) hd (8 ^ (min n 3)) 0 S I none none (by omega) hK (fun _ _ _ => rfl) (fun _ _ z => by cases z) rfl
      · refine P_ldc (pc' := 33) dX8_letting_31 rfl co_X8_188 ?_
        refine P_iret dX8_letting_33 ?_
        rw [if_neg h6, if_neg h15, if_pos h28]
        exact CO.id hK
    · refine P_ldc (pc' := 20) dX8_letting_18 rfl co_X8_81 ?_
      refine P_iret dX8_letting_20 ?_
      first
        | (rw [if_pos h6]; exact CO.id hK)
        | (rw [if_neg h6, if_pos h15]; exact CO.id hK)

