theorem aPayS_7 {b : Nat} {A : Nat → Int32} : aPayS b A 7 = A 7 := by
  unfold aPayS
  split
  · rfl
  · rw [upd_n (by decide), upd_n (by omega)]
theorem aPay_7 : ∀ (k b : Nat) (A : Nat → Int32), aPay k b A 7 = A 7 := by
  intro k
  induction k with
  | zero => intro b A; rfl
  | succ k ih => intro b A; exact (ih (b + 1) (aPayS b A)).trans aPayS_7
theorem lp_X9_pay {G : GX} {S : Shp} {I0 : Mem} {d n tn : Nat} {tx : Nat → Tx} {Q : Option Value → Shp → Mem → Prop} (hsh : SHP S) (hn : n ≤ 9) (hd : 1 ≤ d) : ∀ (k b : Nat) (I : Mem) (x2 : Option Value), b + k = n → WA (aR I) n → PsR I0 (aR I) I → (∀ J x1 x2, PsR I0 (aPay k b (aR I)) J → PW G RX9 "hour" cX9_hour 5 none d 0 0 Q 103 [some (.ref 55), x1, x2, none, none] [] S J) → PW G RX9 "hour" cX9_hour 5 none d 0 0 Q 32 [some (.ref 55), some (.int (nI b)), x2, none, none] [] S I := by
  intro k
  induction k with
  | zero =>
    intro b I x2 hb hw hp hQ
    have e1 : I 56 1 = nI n := by rw [aR_rd I (by decide)]; exact hw.1
    refine P_iload1 (pc' := 33) dX9_hour_32 rfl ?_
    refine P_aload0 (pc' := 34) dX9_hour_33 rfl ?_
    refine P_getr (pc' := 37) dX9_hour_34 rfl fl_X9_9 rfl (l_55 hsh) (t_55 hsh) (q_55_0 hsh) ?_
    refine P_iconst (pc' := 38) dX9_hour_37 rfl (v := 1) rfl ?_
    refine P_iald (pc' := 39) dX9_hour_38 rfl (l_56 hsh) (t_56 hsh) (j := 1) rfl (by decide) (by decide) ?_
    refine P_icmp_ge (tgt := 103) (pc' := 42) dX9_hour_39 rfl rfl (fun h39 => ?_) (fun h39 => ?_)
    · exact hQ I _ _ hp
    · exact absurd (by rw [e1]; exact nI_le (by omega) (by omega)) h39
  | succ k ih =>
    intro b I x2 hb hw hp hQ
    have e1 : I 56 1 = nI n := by rw [aR_rd I (by decide)]; exact hw.1
    have b9 : b < 9 := by omega
    obtain ⟨-, ⟨c, c8, hc⟩, -⟩ := hw.2.2.2.2 b b9
    have ec : I 56 (16 + 5 * b + 1) = nI c := by rw [aR_rd I (by omega), show 16 + 5 * b + 1 = 17 + 5 * b by omega]; exact hc
    have eb : nI b + 1 = nI (b + 1) := nI_1 b
    have e3 : 16 + 5 * b + 3 = 19 + 5 * b := by omega
    have e8 : (8 : Int32) + nI c = nI (8 + c) := nI_add 8 c
    have go : ∀ (J : Mem) (y2 : Option Value), PsR I0 (aPayS b (aR I)) J → PW G RX9 "hour" cX9_hour 5 none d 0 0 Q 32 [some (.ref 55), some (.int (nI (b + 1))), y2, none, none] [] S J := by
      intro J y2 hJ
      refine ih (b + 1) J y2 (by omega) (by rw [hJ.1]; exact aPayS_wa hw) (by rw [hJ.1]; exact hJ) (fun K x1 x2 hK => hQ K x1 x2 ?_)
      rw [hJ.1] at hK
      exact hK
    have fin : ∀ v : Int32, PsR I0 (upd (upd (aR I) (19 + 5 * b) (I 56 (19 + 5 * b) - v)) 6 (u2 I 56 (19 + 5 * b) (I 56 (19 + 5 * b) - v) 56 6 + v)) (u2 (u2 I 56 (19 + 5 * b) (I 56 (19 + 5 * b) - v)) 56 6 (u2 I 56 (19 + 5 * b) (I 56 (19 + 5 * b) - v) 56 6 + v)) := by
      intro v
      have p1 := PsR.put (I := I) (i := 19 + 5 * b) (v := I 56 (19 + 5 * b) - v) (by omega)
      have p2 := PsR.put (I := u2 I 56 (19 + 5 * b) (I 56 (19 + 5 * b) - v)) (i := 6) (v := u2 I 56 (19 + 5 * b) (I 56 (19 + 5 * b) - v) 56 6 + v) (by decide)
      rw [p1.1] at p2
      exact hp.tr (p1.tr p2)
    refine P_iload1 (pc' := 33) dX9_hour_32 rfl ?_
    refine P_aload0 (pc' := 34) dX9_hour_33 rfl ?_
    refine P_getr (pc' := 37) dX9_hour_34 rfl fl_X9_9 rfl (l_55 hsh) (t_55 hsh) (q_55_0 hsh) ?_
    refine P_iconst (pc' := 38) dX9_hour_37 rfl (v := 1) rfl ?_
    refine P_iald (pc' := 39) dX9_hour_38 rfl (l_56 hsh) (t_56 hsh) (j := 1) rfl (by decide) (by decide) ?_
    refine P_icmp_ge (tgt := 103) (pc' := 42) dX9_hour_39 rfl rfl (fun h39 => ?_) (fun h39 => ?_)
    · exact absurd (by rw [e1] at h39; exact h39) (nI_ge (by omega) (by omega))
    · refine P_aload0 (pc' := 43) dX9_hour_42 rfl ?_
      refine P_iload1 (pc' := 44) dX9_hour_43 rfl ?_
      refine P_iconst (pc' := 45) dX9_hour_44 rfl (v := 1) rfl ?_
      refine P_callV2 (pc' := 48) dX9_hour_45 rfl lk_X9_89 (l_55 hsh) (t_55 hsh) (c_X9_of (k := 1) (d := 0) hsh b9 (by decide)) (by omega) (Nat.le_of_ble_eq_true rfl) (fun r S' I' hq => ?_); obtain ⟨rfl, rfl, rfl⟩ := hq
      refine P_as ec ?_
      refine P_bipush (pc' := 50) dX9_hour_48 rfl (v := 8) rfl ?_
      refine P_icmp_ne (tgt := 57) (pc' := 53) dX9_hour_50 rfl rfl (fun h50 => ?_) (fun h50 => ?_)
      · refine P_aload0 (pc' := 58) dX9_hour_57 rfl ?_
        refine P_getr (pc' := 61) dX9_hour_58 rfl fl_X9_9 rfl (l_55 hsh) (t_55 hsh) (q_55_0 hsh) ?_
        refine P_bipush (pc' := 63) dX9_hour_61 rfl (v := 8) rfl ?_
        refine P_aload0 (pc' := 64) dX9_hour_63 rfl ?_
        refine P_iload1 (pc' := 65) dX9_hour_64 rfl ?_
        refine P_iconst (pc' := 66) dX9_hour_65 rfl (v := 1) rfl ?_
        refine P_callV2 (pc' := 69) dX9_hour_66 rfl lk_X9_89 (l_55 hsh) (t_55 hsh) (c_X9_of (k := 1) (d := 0) hsh b9 (by decide)) (by omega) (Nat.le_of_ble_eq_true rfl) (fun r S' I' hq => ?_); obtain ⟨rfl, rfl, rfl⟩ := hq
        refine P_as ec ?_
        refine P_iadd (pc' := 70) dX9_hour_69 rfl ?_
        refine P_iald (pc' := 71) dX9_hour_70 rfl (l_56 hsh) (t_56 hsh) (j := 8 + c) e8 (by omega) (by decide) ?_
        refine P_istore2 (pc' := 72) dX9_hour_71 rfl (by decide) rfl ?_
        refine P_aload0 (pc' := 73) dX9_hour_72 rfl ?_
        refine P_iload1 (pc' := 74) dX9_hour_73 rfl ?_
        refine P_iconst (pc' := 75) dX9_hour_74 rfl (v := 3) rfl ?_
        refine P_aload0 (pc' := 76) dX9_hour_75 rfl ?_
        refine P_iload1 (pc' := 77) dX9_hour_76 rfl ?_
        refine P_iconst (pc' := 78) dX9_hour_77 rfl (v := 3) rfl ?_
        refine P_callV2 (pc' := 81) dX9_hour_78 rfl lk_X9_89 (l_55 hsh) (t_55 hsh) (c_X9_of (k := 3) (d := 0) hsh b9 (by decide)) (by omega) (Nat.le_of_ble_eq_true rfl) (fun r S' I' hq => ?_); obtain ⟨rfl, rfl, rfl⟩ := hq
        refine P_iload2 (pc' := 82) dX9_hour_81 rfl ?_
        refine P_isub (pc' := 83) dX9_hour_82 rfl ?_
        refine P_callV3 (pc' := 86) dX9_hour_83 rfl lk_X9_79 (l_55 hsh) (t_55 hsh) (c_X9_put (k := 3) (d := 0) hsh b9 (by decide)) (by omega) (Nat.le_of_ble_eq_true rfl) (fun r S' I' hq => ?_); obtain ⟨rfl, rfl, rfl⟩ := hq
        refine P_aload0 (pc' := 87) dX9_hour_86 rfl ?_
        refine P_getr (pc' := 90) dX9_hour_87 rfl fl_X9_9 rfl (l_55 hsh) (t_55 hsh) (q_55_0 hsh) ?_
        refine P_bipush (pc' := 92) dX9_hour_90 rfl (v := 6) rfl ?_
        refine P_dup2 (pc' := 93) dX9_hour_92 rfl rfl rfl ?_
        refine P_iald (pc' := 94) dX9_hour_93 rfl (l_56 hsh) (t_56 hsh) (j := 6) rfl (by decide) (by decide) ?_
        refine P_iload2 (pc' := 95) dX9_hour_94 rfl ?_
        refine P_iadd (pc' := 96) dX9_hour_95 rfl ?_
        refine P_iast (pc' := 97) dX9_hour_96 rfl (l_56 hsh) (t_56 hsh) (j := 6) rfl (by decide) (by decide) ?_
        refine P_iinc1 (pc' := 100) dX9_hour_97 rfl eb (by decide) rfl ?_
        refine P_goto (tgt := 32) dX9_hour_100 rfl ?_
        rw [e3]
        refine go _ _ ?_
        first
          | (have q : aPayS b (aR I) = upd (upd (aR I) (19 + 5 * b) (I 56 (19 + 5 * b) - 0)) 6 (u2 I 56 (19 + 5 * b) (I 56 (19 + 5 * b) - 0) 56 6 + 0) := by
              unfold aPayS
              rw [if_pos (by rw [hc]; exact h50), u2_k (by omega), Int32.sub_zero, Int32.add_zero, aR_rd I (by omega), aR_rd I (by decide), upd_id, upd_id]
             rw [q]
             exact fin 0)
          | (have c7 : c < 8 := by
              rcases Nat.lt_or_ge c 8 with z | z
              · exact z
              · exact absurd (by rw [show c = 8 by omega]; rfl) h50
             have q : aPayS b (aR I) = upd (upd (aR I) (19 + 5 * b) (I 56 (19 + 5 * b) - I 56 (8 + c))) 6 (u2 I 56 (19 + 5 * b) (I 56 (19 + 5 * b) - I 56 (8 + c)) 56 6 + I 56 (8 + c)) := by
              unfold aPayS
              rw [if_neg (by rw [hc]; exact h50), u2_k (by omega), hc, nI_clamp (by omega), aR_rd I (i := 19 + 5 * b) (by omega), aR_rd I (i := 6) (by decide), aR_rd I (i := 8 + c) (by omega)]
             rw [q]
             exact fin _)
      · refine P_iconst (pc' := 54) dX9_hour_53 rfl (v := 0) rfl ?_
        refine P_goto (tgt := 71) dX9_hour_54 rfl ?_
        refine P_istore2 (pc' := 72) dX9_hour_71 rfl (by decide) rfl ?_
        refine P_aload0 (pc' := 73) dX9_hour_72 rfl ?_
        refine P_iload1 (pc' := 74) dX9_hour_73 rfl ?_
        refine P_iconst (pc' := 75) dX9_hour_74 rfl (v := 3) rfl ?_
        refine P_aload0 (pc' := 76) dX9_hour_75 rfl ?_
        refine P_iload1 (pc' := 77) dX9_hour_76 rfl ?_
        refine P_iconst (pc' := 78) dX9_hour_77 rfl (v := 3) rfl ?_
        refine P_callV2 (pc' := 81) dX9_hour_78 rfl lk_X9_89 (l_55 hsh) (t_55 hsh) (c_X9_of (k := 3) (d := 0) hsh b9 (by decide)) (by omega) (Nat.le_of_ble_eq_true rfl) (fun r S' I' hq => ?_); obtain ⟨rfl, rfl, rfl⟩ := hq
        refine P_iload2 (pc' := 82) dX9_hour_81 rfl ?_
        refine P_isub (pc' := 83) dX9_hour_82 rfl ?_
        refine P_callV3 (pc' := 86) dX9_hour_83 rfl lk_X9_79 (l_55 hsh) (t_55 hsh) (c_X9_put (k := 3) (d := 0) hsh b9 (by decide)) (by omega) (Nat.le_of_ble_eq_true rfl) (fun r S' I' hq => ?_); obtain ⟨rfl, rfl, rfl⟩ := hq
        refine P_aload0 (pc' := 87) dX9_hour_86 rfl ?_
        refine P_getr (pc' := 90) dX9_hour_87 rfl fl_X9_9 rfl (l_55 hsh) (t_55 hsh) (q_55_0 hsh) ?_
        refine P_bipush (pc' := 92) dX9_hour_90 rfl (v := 6) rfl ?_
        refine P_dup2 (pc' := 93) dX9_hour_92 rfl rfl rfl ?_
        refine P_iald (pc' := 94) dX9_hour_93 rfl (l_56 hsh) (t_56 hsh) (j := 6) rfl (by decide) (by decide) ?_
        refine P_iload2 (pc' := 95) dX9_hour_94 rfl ?_
        refine P_iadd (pc' := 96) dX9_hour_95 rfl ?_
        refine P_iast (pc' := 97) dX9_hour_96 rfl (l_56 hsh) (t_56 hsh) (j := 6) rfl (by decide) (by decide) ?_
        refine P_iinc1 (pc' := 100) dX9_hour_97 rfl eb (by decide) rfl ?_
        refine P_goto (tgt := 32) dX9_hour_100 rfl ?_
        rw [e3]
        refine go _ _ ?_
        first
          | (have q : aPayS b (aR I) = upd (upd (aR I) (19 + 5 * b) (I 56 (19 + 5 * b) - 0)) 6 (u2 I 56 (19 + 5 * b) (I 56 (19 + 5 * b) - 0) 56 6 + 0) := by
              unfold aPayS
              rw [if_pos (by rw [hc]; exact h50), u2_k (by omega), Int32.sub_zero, Int32.add_zero, aR_rd I (by omega), aR_rd I (by decide), upd_id, upd_id]
             rw [q]
             exact fin 0)
          | (have c7 : c < 8 := by
              rcases Nat.lt_or_ge c 8 with z | z
              · exact z
              · exact absurd (by rw [show c = 8 by omega]; rfl) h50
             have q : aPayS b (aR I) = upd (upd (aR I) (19 + 5 * b) (I 56 (19 + 5 * b) - I 56 (8 + c))) 6 (u2 I 56 (19 + 5 * b) (I 56 (19 + 5 * b) - I 56 (8 + c)) 56 6 + I 56 (8 + c)) := by
              unfold aPayS
              rw [if_neg (by rw [hc]; exact h50), u2_k (by omega), hc, nI_clamp (by omega), aR_rd I (i := 19 + 5 * b) (by omega), aR_rd I (i := 6) (by decide), aR_rd I (i := 8 + c) (by omega)]
             rw [q]
             exact fin _)
theorem aWet_7 {A : Nat → Int32} : aWet A 7 = A 7 := by
  unfold aWet
  split
  · rw [upd_n (by decide)]
  · rfl
theorem c_X9_hour {G : GX} {S : Shp} {I : Mem} {d n tn : Nat} {tx : Nat → Tx} (hsh : SHP S) (hr : RT I tn tx) (hrd : RTd tn tx) (hw : WA (aR I) n) (hd : 4 ≤ d) : PM G yX9_hour cX9_hour 5 none d 0 0 [.ref 55] S I (fun r S' I' => r = none ∧ S = S' ∧ PsR I (aHour (alX tn tx) n (aR I)) I') := by
  refine PM.of (ls := [some (.ref 55), none, none, none, none]) (by decide) rfl (Nat.le_of_ble_eq_true rfl) rfl ?_
  show PW G RX9 "hour" _ _ _ _ _ _ _ _ _ _ _ _
  have p1 := PsR.put (I := I) (i := 0) (v := zn (I 56 0)) (by decide)
  have w1 : WA (upd (aR I) 0 (zn (I 56 0))) n := hw.z _
  have key : ∀ J, PsR I (aWet (upd (aR I) 0 (zn (I 56 0)))) J → PW G RX9 "hour" cX9_hour 5 none d 0 0 (fun r S' I' => r = none ∧ S = S' ∧ PsR I (aHour (alX tn tx) n (aR I)) I') 30 [some (.ref 55), none, none, none, none] [] S J := by
    intro J hJ
    have wJ : WA (aR J) n := by rw [hJ.1]; exact aWet_wa w1
    refine P_iconst (pc' := 31) dX9_hour_30 rfl (v := nI 0) rfl ?_
    refine P_istore1 (pc' := 32) dX9_hour_31 rfl (by decide) rfl ?_
    refine lp_X9_pay (tn := tn) (tx := tx) (I0 := J) hsh hw.2.1 (by omega) n 0 J none (by omega) wJ PsR.self (fun K x1 x2 hK => ?_)
    have wK : WA (aR K) n := by rw [hK.1]; exact aPay_wa _ _ _ wJ
    have pK : PsR I (aR K) K := by have := hJ.tr hK; rw [hK.1]; exact this
    have rK : RT K tn tx := (hJ.tr hK).rt (by rw [aPay_7, hJ.1, aWet_7, upd_n (by decide)]) hr
    have eK : aEnd (aFun (alX tn tx) n (aPsN (alX tn tx) n (if aR K 4 = 0 then 3 else 2) (aR K))) = aHour (alX tn tx) n (aR I) := by
      have e0 : aR I 0 = I 56 0 := rfl
      unfold aHour
      rw [e0, ← hJ.1, ← hK.1]
      unfold aPs
      rfl
    have e4 : K 56 4 = aR K 4 := aR_rd K (by decide)
    refine P_aload0 (pc' := 104) dX9_hour_103 rfl ?_
    refine P_getr (pc' := 107) dX9_hour_104 rfl fl_X9_9 rfl (l_55 hsh) (t_55 hsh) (q_55_0 hsh) ?_
    refine P_iconst (pc' := 108) dX9_hour_107 rfl (v := 4) rfl ?_
    refine P_iald (pc' := 109) dX9_hour_108 rfl (l_56 hsh) (t_56 hsh) (j := 4) rfl (by decide) (by decide) ?_
    refine P_istore1 (pc' := 110) dX9_hour_109 rfl (by decide) rfl ?_
    rcases wK.2.2.1 with z | z
    · rw [if_pos z] at eK
      rw [e4, z]
      exact lp_X9_hour hsh hrd hd 3 0 K _ _ _ (by decide) rK wK pK eK
    · rw [if_neg (by rw [z]; decide)] at eK
      rw [e4, z]
      exact lp_X9_hour hsh hrd hd 2 1 K _ _ _ (by decide) rK wK pK eK
  have er : zs (zn (I 56 0)) - zs (zn (I 56 0)) / 100 * 100 = nI (dz (zn (I 56 0)) % 100) := rm_n (k := 100) _ (by decide) (by decide)
  have e3 : aR I 3 = I 56 3 := (aR_rd I (by decide)).symm
  have e4 : aR I 4 = I 56 4 := (aR_rd I (by decide)).symm
  refine P_aload0 (pc' := 1) dX9_hour_0 rfl ?_
  refine P_callV0 (pc' := 4) dX9_hour_1 rfl lk_X9_129 (l_55 hsh) (t_55 hsh) (c_X9_draw (d := 0) hsh) (by omega) (Nat.le_of_ble_eq_true rfl) (fun r S' I' hq => ?_)
  obtain ⟨rfl, rfl, rfl⟩ := hq
  refine P_bipush (pc' := 6) dX9_hour_4 rfl (v := 100) rfl ?_
  refine P_irem (pc' := 7) dX9_hour_6 rfl (by decide) ?_
  refine P_as er ?_
  refine P_aload0 (pc' := 8) dX9_hour_7 rfl ?_
  refine P_getr (pc' := 11) dX9_hour_8 rfl fl_X9_9 rfl (l_55 hsh) (t_55 hsh) (q_55_0 hsh) ?_
  refine P_iconst (pc' := 12) dX9_hour_11 rfl (v := 3) rfl ?_
  refine P_iald (pc' := 13) dX9_hour_12 rfl (l_56 hsh) (t_56 hsh) (j := 3) rfl (by decide) (by decide) ?_
  refine P_icmp_ge (tgt := 30) (pc' := 16) dX9_hour_13 rfl rfl (fun h13 => ?_) (fun h13 => ?_)
  · first
      | exact key _ (by
          have q : aWet (upd (aR I) 0 (zn (I 56 0))) = upd (aR I) 0 (zn (I 56 0)) := by
            unfold aWet
            rw [upd_s, upd_n (by decide), e3, if_neg (Int32.not_lt.mpr (by rw [u2_k (by decide)] at h13; exact h13))]
          rw [q]
          exact p1)
      | exact key _ (by
          have p2 := PsR.put (I := u2 I 56 0 (zn (I 56 0))) (i := 4) (v := 1 - u2 I 56 0 (zn (I 56 0)) 56 4) (by decide)
          rw [p1.1] at p2
          have q : aWet (upd (aR I) 0 (zn (I 56 0))) = upd (upd (aR I) 0 (zn (I 56 0))) 4 (1 - u2 I 56 0 (zn (I 56 0)) 56 4) := by
            unfold aWet
            rw [upd_s, upd_n (by decide), e3, if_pos (Int32.not_le.mp (by rw [u2_k (by decide)] at h13; exact h13)), upd_n (by decide), u2_k (by decide), ← e4]
            rcases hw.2.2.1 with z | z
            · rw [z]; rfl
            · rw [z]; rfl
          rw [q]
          exact p1.tr p2)
  · refine P_aload0 (pc' := 17) dX9_hour_16 rfl ?_
    refine P_getr (pc' := 20) dX9_hour_17 rfl fl_X9_9 rfl (l_55 hsh) (t_55 hsh) (q_55_0 hsh) ?_
    refine P_iconst (pc' := 21) dX9_hour_20 rfl (v := 4) rfl ?_
    refine P_iconst (pc' := 22) dX9_hour_21 rfl (v := 1) rfl ?_
    refine P_aload0 (pc' := 23) dX9_hour_22 rfl ?_
    refine P_getr (pc' := 26) dX9_hour_23 rfl fl_X9_9 rfl (l_55 hsh) (t_55 hsh) (q_55_0 hsh) ?_
    refine P_iconst (pc' := 27) dX9_hour_26 rfl (v := 4) rfl ?_
    refine P_iald (pc' := 28) dX9_hour_27 rfl (l_56 hsh) (t_56 hsh) (j := 4) rfl (by decide) (by decide) ?_
    refine P_isub (pc' := 29) dX9_hour_28 rfl ?_
    refine P_iast (pc' := 30) dX9_hour_29 rfl (l_56 hsh) (t_56 hsh) (j := 4) rfl (by decide) (by decide) ?_
    first
      | exact key _ (by
          have q : aWet (upd (aR I) 0 (zn (I 56 0))) = upd (aR I) 0 (zn (I 56 0)) := by
            unfold aWet
            rw [upd_s, upd_n (by decide), e3, if_neg (Int32.not_lt.mpr (by rw [u2_k (by decide)] at h13; exact h13))]
          rw [q]
          exact p1)
      | exact key _ (by
          have p2 := PsR.put (I := u2 I 56 0 (zn (I 56 0))) (i := 4) (v := 1 - u2 I 56 0 (zn (I 56 0)) 56 4) (by decide)
          rw [p1.1] at p2
          have q : aWet (upd (aR I) 0 (zn (I 56 0))) = upd (upd (aR I) 0 (zn (I 56 0))) 4 (1 - u2 I 56 0 (zn (I 56 0)) 56 4) := by
            unfold aWet
            rw [upd_s, upd_n (by decide), e3, if_pos (Int32.not_le.mp (by rw [u2_k (by decide)] at h13; exact h13)), upd_n (by decide), u2_k (by decide), ← e4]
            rcases hw.2.2.1 with z | z
            · rw [z]; rfl
            · rw [z]; rfl
          rw [q]
          exact p1.tr p2)
theorem it_7 {F : (Nat → Int32) → (Nat → Int32)} (hF : ∀ A, F A 7 = A 7) : ∀ (k : Nat) (A : Nat → Int32), it F k A 7 = A 7 := by
  intro k
  induction k with
  | zero => intro A; rfl
  | succ k ih => intro A; rw [it_s, ih, hF]
theorem aHour_7 {al : Int32 → Int32 → Int32 → Int32} {n : Nat} {A : Nat → Int32} : aHour al n A 7 = A 7 := by
  unfold aHour aEnd
  rw [upd_n (by decide)]
  have h1 : ∀ B, aFun al n B 7 = B 7 := by
    intro B
    unfold aFun
    split
    · rfl
    · exact aWalk_7
  have h2 : ∀ B, aPs al n B 7 = B 7 := fun B => it_7 (fun _ => aPass_7) _ _
  rw [h1, h2, aPay_7, aWet_7, upd_n (by decide)]
theorem aHrs_7 {al : Int32 → Int32 → Int32 → Int32} {n k : Nat} {A : Nat → Int32} : aHrs al n k A 7 = A 7 := it_7 (fun _ => aHour_7) _ _
theorem lp_X9_goesOn {G : GX} {S : Shp} {I0 : Mem} {d n tn h : Nat} {tx : Nat → Tx} {B : Nat → Int32} (hsh : SHP S) (hrd : RTd tn tx) (hd : 5 ≤ d) (hh : h < 2 ^ 31) : ∀ (k i : Nat) (I : Mem), i + k = h → RT I tn tx → WA (aR I) n → PsR I0 (aR I) I → aHrs (alX tn tx) n k (aR I) = B → PW G RX9 "goesOn" cX9_goesOn 3 none d 0 0 (fun r S' I' => r = none ∧ S = S' ∧ PsR I0 B I') 2 [some (.ref 55), some (.int (nI h)), some (.int (nI i))] [] S I := by
  intro k
  induction k with
  | zero =>
    intro i I hi hr hw hp hB
    refine P_iload2 (pc' := 3) dX9_goesOn_2 rfl ?_
    refine P_iload1 (pc' := 4) dX9_goesOn_3 rfl ?_
    refine P_icmp_ge (tgt := 17) (pc' := 7) dX9_goesOn_4 rfl rfl (fun h4 => ?_) (fun h4 => ?_)
    · refine P_vret dX9_goesOn_17 ?_
      refine ⟨rfl, rfl, ?_⟩
      rw [← hB]
      exact hp
    · exact absurd (nI_le (by omega) (by omega)) h4
  | succ k ih =>
    intro i I hi hr hw hp hB
    refine P_iload2 (pc' := 3) dX9_goesOn_2 rfl ?_
    refine P_iload1 (pc' := 4) dX9_goesOn_3 rfl ?_
    refine P_icmp_ge (tgt := 17) (pc' := 7) dX9_goesOn_4 rfl rfl (fun h4 => ?_) (fun h4 => ?_)
    · exact absurd h4 (nI_ge (by omega) (by omega))
    · refine P_aload0 (pc' := 8) dX9_goesOn_7 rfl ?_
      refine P_callV0 (pc' := 11) dX9_goesOn_8 rfl lk_X9_137 (l_55 hsh) (t_55 hsh) (c_X9_hour (n := n) (d := 4) hsh hr hrd hw (by omega)) (by omega) (Nat.le_of_ble_eq_true rfl) (fun r S' I' hq => ?_)
      obtain ⟨rfl, rfl, hp2⟩ := hq
      refine P_iinc2 (pc' := 14) dX9_goesOn_11 rfl (nI_1 i) (by decide) rfl ?_
      refine P_goto (tgt := 2) dX9_goesOn_14 rfl ?_
      have h5p : PsR I0 (aR I') I' := by
        have h2 := hp.tr hp2
        rw [hp2.1]
        exact h2
      refine ih (i + 1) I' (by omega) (hp2.rt aHour_7 hr) (by rw [hp2.1]; exact aHour_wa hw) h5p ?_
      rw [hp2.1, ← aHrs_s]
      exact hB
theorem c_X9_goesOn {G : GX} {S : Shp} {I : Mem} {d n tn h : Nat} {tx : Nat → Tx} (hsh : SHP S) (hr : RT I tn tx) (hrd : RTd tn tx) (hw : WA (aR I) n) (hh : h < 2 ^ 31) (hd : 5 ≤ d) : PM G yX9_goesOn cX9_goesOn 3 none d 0 0 [.ref 55, .int (nI h)] S I (fun r S' I' => r = none ∧ S = S' ∧ PsR I (aHrs (alX tn tx) n h (aR I)) I') := by
  refine PM.of (ls := [some (.ref 55), some (.int (nI h)), none]) (by decide) rfl (Nat.le_of_ble_eq_true rfl) rfl ?_
  show PW G RX9 "goesOn" _ _ _ _ _ _ _ _ _ _ _ _
  refine P_iconst (pc' := 1) dX9_goesOn_0 rfl (v := 0) rfl ?_
  refine P_istore2 (pc' := 2) dX9_goesOn_1 rfl (by decide) rfl ?_
  exact lp_X9_goesOn (I0 := I) hsh hrd hd hh h 0 I (by omega) hr hw PsR.self rfl

