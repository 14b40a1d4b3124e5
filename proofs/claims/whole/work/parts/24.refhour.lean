theorem g_m3w {g : Nat} (h : g ≤ 9) : hl (nI g - 3) 0 9 = nI (g - 3) := by
  have key : ∀ g, g ≤ 9 → hl (nI g - 3) 0 9 = nI (g - 3) := by decide +kernel
  exact key g h
/-- the reference's passer at one corner -/
theorem lp_X9_passes_in {G : GX} {S : Shp} {I0 : Mem} {d f t c n tn : Nat} {m co sp : Int32} {tx : Nat → Tx} {Q : Option Value → Shp → Mem → Prop} (hsh : SHP S) (hrd : RTd tn tx) (c1 : 1 ≤ c) (c9 : c ≤ 9) (hn : n ≤ 9) (hd : 3 ≤ d) : ∀ (k b : Nat) (g : Nat) (I : Mem) (o9 : Option Value), b + k = n → g ≤ 9 → RT I tn tx → WA (aR I) n → PsR I0 (aR I) I →
    (∀ (g' : Nat) (J : Mem) (x9 : Option Value), g' ≤ 9 → RT J tn tx → WA (aR J) n → (g', aR J) = aIn (alX tn tx) c m co k b (g, aR I) → PsR I0 (aR J) J → PW G RX9 "passes" cX9_passes 10 none d 0 0 Q 127 [some (.ref 55), some (.int (nI f)), some (.int (nI t)), some (.int (nI c)), some (.int m), some (.int (nI g')), some (.int sp), some (.int co), some (.int (nI n)), x9] [] S J) →
    PW G RX9 "passes" cX9_passes 10 none d 0 0 Q 31 [some (.ref 55), some (.int (nI f)), some (.int (nI t)), some (.int (nI c)), some (.int m), some (.int (nI g)), some (.int sp), some (.int co), some (.int (nI b)), o9] [] S I := by
  intro k
  induction k with
  | zero =>
    intro b g I o9 hb g9 hr hw hp hQ
    have e1 : I 56 1 = nI n := by rw [aR_rd I (by decide)]; exact hw.1
    have hb : b = n := by omega
    subst hb
    refine P_iload8 (pc' := 33) dX9_passes_31 rfl ?_
    refine P_aload0 (pc' := 34) dX9_passes_33 rfl ?_
    refine P_getr (pc' := 37) dX9_passes_34 rfl fl_X9_9 rfl (l_55 hsh) (t_55 hsh) (q_55_0 hsh) ?_
    refine P_iconst (pc' := 38) dX9_passes_37 rfl (v := 1) rfl ?_
    refine P_iald (pc' := 39) dX9_passes_38 rfl (l_56 hsh) (t_56 hsh) (j := 1) rfl (by decide) (by decide) ?_
    refine P_icmp_ge (tgt := 127) (pc' := 42) dX9_passes_39 rfl rfl (fun h39 => ?_) (fun h39 => ?_)
    · exact hQ g I _ g9 hr hw rfl hp
    · exact absurd (by rw [e1]; exact Int32.le_refl _) h39
  | succ k ih =>
    intro b g I o9 hb g9 hr hw hp hQ
    have e1 : I 56 1 = nI n := by rw [aR_rd I (by decide)]; exact hw.1
    have b9 : b < 9 := by omega
    have ec : I 56 (16 + 5 * b + 1) = aR I (17 + 5 * b) := by rw [aR_rd I (by omega), show 16 + 5 * b + 1 = 17 + 5 * b by omega]
    have go : ∀ (g' : Nat) (J : Mem) (x9 : Option Value), g' ≤ 9 → RT J tn tx → (g', aR J) = aStep (alX tn tx) c m co b (g, aR I) → PsR I0 (aR J) J → PW G RX9 "passes" cX9_passes 10 none d 0 0 Q 31 [some (.ref 55), some (.int (nI f)), some (.int (nI t)), some (.int (nI c)), some (.int m), some (.int (nI g')), some (.int sp), some (.int co), some (.int (nI (b + 1))), x9] [] S J := by
      intro g' J x9 h9 hJ he hpJ
      have hwJ : WA (aR J) n := by
        have := aStep_wa (al := alX tn tx) (c := c) (m := m) (co := co) (b := b) (q := (g, aR I)) hw
        rw [← he] at this
        exact this
      refine ih (b + 1) g' J x9 (by omega) h9 hJ hwJ hpJ (fun g2 K x a1 a2 a3 a4 a5 => hQ g2 K x a1 a2 a3 ?_ a5)
      rw [a4, he]
      rfl
    have eb : nI b + 1 = nI (b + 1) := nI_1 b
    refine P_iload8 (pc' := 33) dX9_passes_31 rfl ?_
    refine P_aload0 (pc' := 34) dX9_passes_33 rfl ?_
    refine P_getr (pc' := 37) dX9_passes_34 rfl fl_X9_9 rfl (l_55 hsh) (t_55 hsh) (q_55_0 hsh) ?_
    refine P_iconst (pc' := 38) dX9_passes_37 rfl (v := 1) rfl ?_
    refine P_iald (pc' := 39) dX9_passes_38 rfl (l_56 hsh) (t_56 hsh) (j := 1) rfl (by decide) (by decide) ?_
    refine P_icmp_ge (tgt := 127) (pc' := 42) dX9_passes_39 rfl rfl (fun h39 => ?_) (fun h39 => ?_)
    · exact absurd (by rw [e1] at h39; exact h39) (nI_ge (by omega) (by omega))
    · refine P_aload0 (pc' := 43) dX9_passes_42 rfl ?_
      refine P_iload8 (pc' := 45) dX9_passes_43 rfl ?_
      refine P_iconst (pc' := 46) dX9_passes_45 rfl (v := 1) rfl ?_
      refine P_callV2 (pc' := 49) dX9_passes_46 rfl lk_X9_89 (l_55 hsh) (t_55 hsh) (c_X9_of (k := 1) (d := 0) hsh b9 (by decide)) (by omega) (Nat.le_of_ble_eq_true rfl) (fun r S' I' hq => ?_); obtain ⟨rfl, rfl, rfl⟩ := hq
      refine P_as ec ?_
      refine P_iload7 (pc' := 51) dX9_passes_49 rfl ?_
      refine P_icmp_ne (tgt := 68) (pc' := 54) dX9_passes_51 rfl rfl (fun h51 => ?_) (fun h51 => ?_)
      · refine P_iconst (pc' := 69) dX9_passes_68 rfl (v := 0) rfl ?_
        refine P_istore9 (pc' := 71) dX9_passes_69 rfl (by decide) rfl ?_
        refine P_iload9 (pc' := 73) dX9_passes_71 rfl ?_
        refine P_if_le (tgt := 121) (pc' := 76) dX9_passes_73 rfl rfl (fun h73 => ?_) (fun h73 => absurd (by decide) h73)
        refine P_iinc8 (pc' := 124) dX9_passes_121 rfl eb (by decide) rfl ?_
        refine P_goto (tgt := 31) dX9_passes_124 rfl ?_
        exact go g _ _ g9 hr (by rw [aStep_no h51]) hp
      · refine P_aload0 (pc' := 55) dX9_passes_54 rfl ?_
        refine P_iload8 (pc' := 57) dX9_passes_55 rfl ?_
        refine P_iload3 (pc' := 58) dX9_passes_57 rfl ?_
        refine P_iload4 (pc' := 60) dX9_passes_58 rfl ?_
        refine P_iload5 (pc' := 62) dX9_passes_60 rfl ?_
        refine P_callV4 (pc' := 65) dX9_passes_62 rfl lk_X9_113 (l_55 hsh) (t_55 hsh) (c_X9_givenTo (d := 2) hsh hr hrd hw b9 c1 c9 g9 (by omega)) (by omega) (Nat.le_of_ble_eq_true rfl) (fun r S' I' hq => ?_)
        obtain ⟨rfl, rfl, hp2⟩ := hq
        refine P_goto (tgt := 69) dX9_passes_65 rfl ?_
        refine P_istore9 (pc' := 71) dX9_passes_69 rfl (by decide) rfl ?_
        refine P_iload9 (pc' := 73) dX9_passes_71 rfl ?_
        refine P_if_le (tgt := 121) (pc' := 76) dX9_passes_73 rfl rfl (fun h73 => ?_) (fun h73 => ?_)
        · refine P_iinc8 (pc' := 124) dX9_passes_121 rfl eb (by decide) rfl ?_
          refine P_goto (tgt := 31) dX9_passes_124 rfl ?_
          exact go g _ _ g9 (hp2.rt rfl hr) (by rw [aStep_no2 h51 h73, hp2.1]) (by rw [hp2.1]; exact hp.tr hp2)
        · refine P_aload0 (pc' := 77) dX9_passes_76 rfl ?_
          refine P_iload8 (pc' := 79) dX9_passes_77 rfl ?_
          refine P_iconst (pc' := 80) dX9_passes_79 rfl (v := 3) rfl ?_
          refine P_aload0 (pc' := 81) dX9_passes_80 rfl ?_
          refine P_iload8 (pc' := 83) dX9_passes_81 rfl ?_
          refine P_iconst (pc' := 84) dX9_passes_83 rfl (v := 3) rfl ?_
          refine P_callV2 (pc' := 87) dX9_passes_84 rfl lk_X9_89 (l_55 hsh) (t_55 hsh) (c_X9_of (k := 3) (d := 0) hsh b9 (by decide)) (by omega) (Nat.le_of_ble_eq_true rfl) (fun r S' I2 hq => ?_); obtain ⟨rfl, rfl, rfl⟩ := hq
          refine P_iload9 (pc' := 89) dX9_passes_87 rfl ?_
          refine P_iadd (pc' := 90) dX9_passes_89 rfl ?_
          refine P_callV3 (pc' := 93) dX9_passes_90 rfl lk_X9_79 (l_55 hsh) (t_55 hsh) (c_X9_put (k := 3) (d := 0) hsh b9 (by decide)) (by omega) (Nat.le_of_ble_eq_true rfl) (fun r S' I2 hq => ?_); obtain ⟨rfl, rfl, rfl⟩ := hq
          refine P_aload0 (pc' := 94) dX9_passes_93 rfl ?_
          refine P_iload8 (pc' := 96) dX9_passes_94 rfl ?_
          refine P_iconst (pc' := 97) dX9_passes_96 rfl (v := 4) rfl ?_
          refine P_aload0 (pc' := 98) dX9_passes_97 rfl ?_
          refine P_iload8 (pc' := 100) dX9_passes_98 rfl ?_
          refine P_iconst (pc' := 101) dX9_passes_100 rfl (v := 4) rfl ?_
          refine P_callV2 (pc' := 104) dX9_passes_101 rfl lk_X9_89 (l_55 hsh) (t_55 hsh) (c_X9_of (k := 4) (d := 0) hsh b9 (by decide)) (by omega) (Nat.le_of_ble_eq_true rfl) (fun r S' I2 hq => ?_); obtain ⟨rfl, rfl, rfl⟩ := hq
          refine P_iconst (pc' := 105) dX9_passes_104 rfl (v := 1) rfl ?_
          refine P_iadd (pc' := 106) dX9_passes_105 rfl ?_
          refine P_callV3 (pc' := 109) dX9_passes_106 rfl lk_X9_79 (l_55 hsh) (t_55 hsh) (c_X9_put (k := 4) (d := 0) hsh b9 (by decide)) (by omega) (Nat.le_of_ble_eq_true rfl) (fun r S' I2 hq => ?_); obtain ⟨rfl, rfl, rfl⟩ := hq
          refine P_iload5 (pc' := 111) dX9_passes_109 rfl ?_
          refine P_iconst (pc' := 112) dX9_passes_111 rfl (v := 3) rfl ?_
          refine P_isub (pc' := 113) dX9_passes_112 rfl ?_
          refine P_iconst (pc' := 114) dX9_passes_113 rfl (v := 0) rfl ?_
          refine P_bipush (pc' := 116) dX9_passes_114 rfl (v := 9) rfl ?_
          refine P_callS3 (pc' := 119) dX9_passes_116 rfl lk_X9_110 (c_X9_within (d := 0) _ 0 9) (by omega) (Nat.le_of_ble_eq_true rfl) (fun r S' I' hq => ?_)
          obtain ⟨rfl, rfl, rfl⟩ := hq
          refine P_as (y := nI (g - 3)) (g_m3w g9) ?_
          refine P_istore5 (pc' := 121) dX9_passes_119 rfl (by decide) rfl ?_
          refine P_iinc8 (pc' := 124) dX9_passes_121 rfl eb (by decide) rfl ?_
          refine P_goto (tgt := 31) dX9_passes_124 rfl ?_
          rw [show 16 + 5 * b + 3 = 19 + 5 * b by omega, show 16 + 5 * b + 4 = 20 + 5 * b by omega]
          have p1 := PsR.put (I := I') (i := 19 + 5 * b) (v := I' 56 (19 + 5 * b) + aGift (alX tn tx) (aR I) b c m g) (by omega)
          have p2 := PsR.put (I := u2 I' 56 (19 + 5 * b) (I' 56 (19 + 5 * b) + aGift (alX tn tx) (aR I) b c m g)) (i := 20 + 5 * b) (v := u2 I' 56 (19 + 5 * b) (I' 56 (19 + 5 * b) + aGift (alX tn tx) (aR I) b c m g) 56 (20 + 5 * b) + 1) (by omega)
          rw [p1.1] at p2
          have p3 := (hp2.tr p1).tr p2
          refine go (g - 3) _ _ (by omega) (p3.rt (by rw [upd_n (by omega), upd_n (by omega), hp2.1]) hr) ?_ (by rw [p3.1]; exact hp.tr p3)
          rw [p3.1, aStep_yes h51 h73, u2_k (by omega), aR_rd I' (by omega), aR_rd I' (by omega), hp2.1]

