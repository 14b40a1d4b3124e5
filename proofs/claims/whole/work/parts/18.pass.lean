theorem u2_u2 (I : Mem) (a k : Nat) (v y : Int32) : u2 (u2 I a k v) a k y = u2 I a k y := by
  funext x z
  unfold u2
  split <;> rfl
theorem c_draw2 {G : GX} {S : Shp} {I : Mem} {d o : Nat} {z : Int32} (hsh : SHP S) (ho : StO o) : PM G yX5_draw cX5_draw 1 (some .int) d 0 0 [.ref o] S (u2 I o 12 z) (Rm S (u2 I o 12 (zn z)) (zs (zn z))) := by
  have h := c_X5_draw (G := G) (S := S) (I := u2 I o 12 z) (d := d) hsh ho
  rw [u2_s, u2_u2] at h
  exact h
theorem m8 (a : Nat) : a % 8 ≤ 7 := by omega
theorem m9 (a : Nat) : 1 + a % 9 ≤ 9 := by omega
theorem lp_X5_passHour {G : GX} {S : Shp} {I0 : Mem} {d o n p : Nat} {al : Int32 → Int32 → Int32 → Int32} {B : Nat → Int32} (hsh : SHP S) (ho : StO o) (hd : 5 ≤ d) (hp3 : p ≤ 3) : ∀ (k i : Nat) (I : Mem) (x4 x5 x6 x7 : Option Value), i + k = p → AlOk S I al → WA (aC o I) n → Pst o S I0 al (aC o I) I → aEnd (aFun al n (aPsN al n k (aC o I))) = B → PW G RX5 "passHour" cX5_passHour 8 none d 0 0 (fun r S' I' => r = none ∧ S = S' ∧ Pst o S I0 al B I') 49 [some (.ref o), some (.ref 27), some (.int (nI p)), some (.int (nI i)), x4, x5, x6, x7] [] S I := by
  have hso := ho.le
  intro k
  induction k with
  | zero =>
    intro i I x4 x5 x6 x7 hi hal hw hp hB
    refine P_iload3 (pc' := 50) dX5_passHour_49 rfl ?_
    refine P_iload2 (pc' := 51) dX5_passHour_50 rfl ?_
    refine P_icmp_ge (tgt := 111) (pc' := 54) dX5_passHour_51 rfl rfl (fun h51 => ?_) (fun h51 => ?_)
    · exact k_X5_passHour hsh ho hd hal hw hp hB
    · exact absurd (nI_le (by omega) (by omega)) h51
  | succ k ih =>
    intro i I x4 x5 x6 x7 hi hal hw hp hB
    have ei : nI i + 1 = nI (i + 1) := nI_1 i
    refine P_iload3 (pc' := 50) dX5_passHour_49 rfl ?_
    refine P_iload2 (pc' := 51) dX5_passHour_50 rfl ?_
    refine P_icmp_ge (tgt := 111) (pc' := 54) dX5_passHour_51 rfl rfl (fun h51 => ?_) (fun h51 => ?_)
    · exact absurd h51 (nI_ge (by omega) (by omega))
    · refine P_aload0 (pc' := 55) dX5_passHour_54 rfl ?_
      refine P_callV0 (pc' := 58) dX5_passHour_55 rfl lk_X5_85 (so_l0 hsh ho) (so_t0 hsh ho) (c_X5_draw (d := 0) hsh ho) (by omega) (Nat.le_of_ble_eq_true rfl) (fun r S' I' hq => ?_)
      obtain ⟨rfl, rfl, rfl⟩ := hq
      refine P_bipush (pc' := 60) dX5_passHour_58 rfl (v := 8) rfl ?_
      refine P_irem (pc' := 61) dX5_passHour_60 rfl (by decide) ?_
      refine P_as (y := nI (dz (zn (I o 12)) % 8)) (rm_n _ (by decide) (by decide)) ?_
      refine P_istore4 (pc' := 63) dX5_passHour_61 rfl (by decide) rfl ?_
      refine P_aload0 (pc' := 64) dX5_passHour_63 rfl ?_
      refine P_callV0 (pc' := 67) dX5_passHour_64 rfl lk_X5_85 (so_l0 hsh ho) (so_t0 hsh ho) (c_draw2 (d := 0) hsh ho) (by omega) (Nat.le_of_ble_eq_true rfl) (fun r S' I' hq => ?_)
      obtain ⟨rfl, rfl, rfl⟩ := hq
      refine P_bipush (pc' := 69) dX5_passHour_67 rfl (v := 8) rfl ?_
      refine P_irem (pc' := 70) dX5_passHour_69 rfl (by decide) ?_
      refine P_as (y := nI (dz (zn (zn (I o 12))) % 8)) (rm_n _ (by decide) (by decide)) ?_
      refine P_istore5 (pc' := 72) dX5_passHour_70 rfl (by decide) rfl ?_
      refine P_iconst (pc' := 73) dX5_passHour_72 rfl (v := 1) rfl ?_
      refine P_aload0 (pc' := 74) dX5_passHour_73 rfl ?_
      refine P_callV0 (pc' := 77) dX5_passHour_74 rfl lk_X5_85 (so_l0 hsh ho) (so_t0 hsh ho) (c_draw2 (d := 0) hsh ho) (by omega) (Nat.le_of_ble_eq_true rfl) (fun r S' I' hq => ?_)
      obtain ⟨rfl, rfl, rfl⟩ := hq
      refine P_bipush (pc' := 79) dX5_passHour_77 rfl (v := 9) rfl ?_
      refine P_irem (pc' := 80) dX5_passHour_79 rfl (by decide) ?_
      refine P_as (y := nI (dz (zn (zn (zn (I o 12)))) % 9)) (rm_n _ (by decide) (by decide)) ?_
      refine P_iadd (pc' := 81) dX5_passHour_80 rfl ?_
      refine P_as (y := nI (1 + dz (zn (zn (zn (I o 12)))) % 9)) (nI_add 1 _) ?_
      refine P_istore6 (pc' := 83) dX5_passHour_81 rfl (by decide) rfl ?_
      refine P_aload0 (pc' := 84) dX5_passHour_83 rfl ?_
      refine P_callV0 (pc' := 87) dX5_passHour_84 rfl lk_X5_85 (so_l0 hsh ho) (so_t0 hsh ho) (c_draw2 (d := 0) hsh ho) (by omega) (Nat.le_of_ble_eq_true rfl) (fun r S' I' hq => ?_)
      obtain ⟨rfl, rfl, rfl⟩ := hq
      refine P_bipush (pc' := 89) dX5_passHour_87 rfl (v := 10) rfl ?_
      refine P_irem (pc' := 90) dX5_passHour_89 rfl (by decide) ?_
      refine P_as (y := nI (dz (zn (zn (zn (zn (I o 12))))) % 10)) (rm_n _ (by decide) (by decide)) ?_
      refine P_istore7 (pc' := 92) dX5_passHour_90 rfl (by decide) rfl ?_
      have hp4 := Pst.put (S := S) ho hal (x := o) (k := 12) (v := zn (zn (zn (zn (I o 12))))) (by omega) (by omega) (aC_sc (j := 0) (by decide) _)
      refine P_aload0 (pc' := 93) dX5_passHour_92 rfl ?_
      refine P_iload4 (pc' := 95) dX5_passHour_93 rfl ?_
      refine P_iload5 (pc' := 97) dX5_passHour_95 rfl ?_
      refine P_iload6 (pc' := 99) dX5_passHour_97 rfl ?_
      refine P_iload7 (pc' := 101) dX5_passHour_99 rfl ?_
      refine P_aload1 (pc' := 102) dX5_passHour_101 rfl ?_
      refine P_callV5 (pc' := 105) dX5_passHour_102 rfl lk_X5_92 (so_l0 hsh ho) (so_t0 hsh ho) (c_X5_walk (n := n) (d := 4) hsh ho hp4.2.1 (by rw [hp4.1]; exact hw.z _) (m8 _) (m8 _) (by omega) (m9 _) (by omega)) (by omega) (Nat.le_of_ble_eq_true rfl) (fun r S' I' hq => ?_)
      obtain ⟨rfl, rfl, hp5⟩ := hq
      refine P_iinc3 (pc' := 108) dX5_passHour_105 rfl ei (by decide) rfl ?_
      refine P_goto (tgt := 49) dX5_passHour_108 rfl ?_
      rw [hp4.1] at hp5
      have e0 : aC o I 0 = I o 12 := rfl
      have eA : aC o I' = aPass al n (aC o I) := by
        have h1 := hp5.1
        unfold aPass
        rw [e0]
        exact h1
      have h5p : Pst o S I0 al (aC o I') I' := by
        have h2 := (hp.tr hp4).tr hp5
        rw [hp5.1]
        exact h2
      refine ih (i + 1) I' _ _ _ _ (by omega) hp5.2.1 (by rw [eA]; exact aPass_wa hw) h5p ?_
      rw [eA, ← aPsN_s]
      exact hB
theorem c_X5_passHour {G : GX} {S : Shp} {I : Mem} {d o n : Nat} {al : Int32 → Int32 → Int32 → Int32} (hsh : SHP S) (ho : StO o) (hal : AlOk S I al) (hw : WA (aC o I) n) (hd : 5 ≤ d) : PM G yX5_passHour cX5_passHour 8 none d 0 0 [.ref o, .ref 27] S I (fun r S' I' => r = none ∧ S = S' ∧ Pst o S I al (aHour al n (aC o I)) I') := by
  refine PM.of (ls := [some (.ref o), some (.ref 27), none, none, none, none, none, none]) (by decide) rfl (Nat.le_of_ble_eq_true rfl) rfl ?_
  show PW G RX5 "passHour" _ _ _ _ _ _ _ _ _ _ _ _
  have hso := ho.le
  have p1 := Pst.put (S := S) ho hal (x := o) (k := 12) (v := zn (I o 12)) (by omega) (by omega) (aC_sc (j := 0) (by decide) _)
  have w1 : WA (upd (aC o I) 0 (zn (I o 12))) n := hw.z _
  have key : ∀ J, Pst o S I al (aWet (upd (aC o I) 0 (zn (I o 12)))) J → PW G RX5 "passHour" cX5_passHour 8 none d 0 0 (fun r S' I' => r = none ∧ S = S' ∧ Pst o S I al (aHour al n (aC o I)) I') 30 [some (.ref o), some (.ref 27), none, none, none, none, none, none] [] S J := by
    intro J hJ
    have wJ : WA (aC o J) n := by rw [hJ.1]; exact aWet_wa w1
    refine P_aload0 (pc' := 31) dX5_passHour_30 rfl ?_
    refine P_callV0 (pc' := 34) dX5_passHour_31 rfl lk_X5_89 (so_l0 hsh ho) (so_t0 hsh ho) (c_X5_payRents (d := 2) hsh ho hJ.2.1 wJ (by omega)) (by omega) (Nat.le_of_ble_eq_true rfl) (fun r S' K hq => ?_)
    obtain ⟨rfl, rfl, hK⟩ := hq
    have wK : WA (aC o K) n := by rw [hK.1]; exact aPay_wa _ _ _ wJ
    have pK : Pst o S I al (aC o K) K := by have := hJ.tr hK; rw [hK.1]; exact this
    have eK : aEnd (aFun al n (aPsN al n (if aC o K 4 = 0 then 3 else 2) (aC o K))) = aHour al n (aC o I) := by
      have e0 : aC o I 0 = I o 12 := rfl
      unfold aHour
      rw [e0, ← hJ.1, ← hK.1]
      unfold aPs
      rfl
    refine P_aload0 (pc' := 35) dX5_passHour_34 rfl ?_
    refine P_geti (pc' := 38) dX5_passHour_35 rfl fl_X5_37 rfl (so_l0 hsh ho) (so_t0 hsh ho) ?_
    refine P_if_eq (tgt := 45) (pc' := 41) dX5_passHour_38 rfl rfl (fun h38 => ?_) (fun h38 => ?_)
    · refine P_iconst (pc' := 46) dX5_passHour_45 rfl (v := 3) rfl ?_
      refine P_istore2 (pc' := 47) dX5_passHour_46 rfl (by decide) rfl ?_
      refine P_iconst (pc' := 48) dX5_passHour_47 rfl (v := 0) rfl ?_
      refine P_istore3 (pc' := 49) dX5_passHour_48 rfl (by decide) rfl ?_
      first
        | exact lp_X5_passHour (p := 3) hsh ho hd (by decide) 3 0 K _ _ _ _ (by decide) hK.2.1 wK pK (by rw [if_pos (show aC o K 4 = 0 from h38)] at eK; exact eK)
        | exact lp_X5_passHour (p := 2) hsh ho hd (by decide) 2 0 K _ _ _ _ (by decide) hK.2.1 wK pK (by rw [if_neg (show ¬ aC o K 4 = 0 from h38)] at eK; exact eK)
    · refine P_iconst (pc' := 42) dX5_passHour_41 rfl (v := 2) rfl ?_
      refine P_goto (tgt := 46) dX5_passHour_42 rfl ?_
      refine P_istore2 (pc' := 47) dX5_passHour_46 rfl (by decide) rfl ?_
      refine P_iconst (pc' := 48) dX5_passHour_47 rfl (v := 0) rfl ?_
      refine P_istore3 (pc' := 49) dX5_passHour_48 rfl (by decide) rfl ?_
      first
        | exact lp_X5_passHour (p := 3) hsh ho hd (by decide) 3 0 K _ _ _ _ (by decide) hK.2.1 wK pK (by rw [if_pos (show aC o K 4 = 0 from h38)] at eK; exact eK)
        | exact lp_X5_passHour (p := 2) hsh ho hd (by decide) 2 0 K _ _ _ _ (by decide) hK.2.1 wK pK (by rw [if_neg (show ¬ aC o K 4 = 0 from h38)] at eK; exact eK)
  have er : zs (zn (I o 12)) - zs (zn (I o 12)) / 100 * 100 = nI (dz (zn (I o 12)) % 100) := rm_n (k := 100) _ (by decide) (by decide)
  refine P_aload0 (pc' := 1) dX5_passHour_0 rfl ?_
  refine P_callV0 (pc' := 4) dX5_passHour_1 rfl lk_X5_85 (so_l0 hsh ho) (so_t0 hsh ho) (c_X5_draw (d := 0) hsh ho) (by omega) (Nat.le_of_ble_eq_true rfl) (fun r S' I' hq => ?_)
  obtain ⟨rfl, rfl, rfl⟩ := hq
  refine P_bipush (pc' := 6) dX5_passHour_4 rfl (v := 100) rfl ?_
  refine P_irem (pc' := 7) dX5_passHour_6 rfl (by decide) ?_
  refine P_as er ?_
  refine P_aload0 (pc' := 8) dX5_passHour_7 rfl ?_
  refine P_geti (pc' := 11) dX5_passHour_8 rfl fl_X5_34 rfl (so_l0 hsh ho) (so_t0 hsh ho) ?_
  refine P_icmp_ge (tgt := 30) (pc' := 14) dX5_passHour_11 rfl rfl (fun h11 => ?_) (fun h11 => ?_)
  · first
      | exact key _ (by
          have q : aWet (upd (aC o I) 0 (zn (I o 12))) = upd (aC o I) 0 (zn (I o 12)) := by
            unfold aWet
            rw [upd_s, upd_n (by decide), if_neg (Int32.not_lt.mpr (by rw [u2_k (by decide)] at h11; exact h11))]
          rw [q]
          exact p1)
      | exact key _ (by
          have p2 := Pst.put (S := S) ho p1.2.1 (x := o) (k := 8) (v := 1) (by omega) (by omega) (aC_sc (j := 4) (by decide) _)
          rw [p1.1] at p2
          have q : aWet (upd (aC o I) 0 (zn (I o 12))) = upd (upd (aC o I) 0 (zn (I o 12))) 4 1 := by
            unfold aWet
            rw [upd_s, upd_n (by decide), if_pos (Int32.not_le.mp (by rw [u2_k (by decide)] at h11; exact h11)), upd_n (by decide), if_pos (by rw [u2_k (by decide)] at h19; exact h19)]
          rw [q]
          exact p1.tr p2)
      | exact key _ (by
          have p2 := Pst.put (S := S) ho p1.2.1 (x := o) (k := 8) (v := 0) (by omega) (by omega) (aC_sc (j := 4) (by decide) _)
          rw [p1.1] at p2
          have q : aWet (upd (aC o I) 0 (zn (I o 12))) = upd (upd (aC o I) 0 (zn (I o 12))) 4 0 := by
            unfold aWet
            rw [upd_s, upd_n (by decide), if_pos (Int32.not_le.mp (by rw [u2_k (by decide)] at h11; exact h11)), upd_n (by decide), if_neg (by rw [u2_k (by decide)] at h19; exact h19)]
          rw [q]
          exact p1.tr p2)
  · refine P_aload0 (pc' := 15) dX5_passHour_14 rfl ?_
    refine P_aload0 (pc' := 16) dX5_passHour_15 rfl ?_
    refine P_geti (pc' := 19) dX5_passHour_16 rfl fl_X5_37 rfl (so_l0 hsh ho) (so_t0 hsh ho) ?_
    refine P_if_ne (tgt := 26) (pc' := 22) dX5_passHour_19 rfl rfl (fun h19 => ?_) (fun h19 => ?_)
    · refine P_iconst (pc' := 27) dX5_passHour_26 rfl (v := 0) rfl ?_
      refine P_putz (pc' := 30) dX5_passHour_27 rfl fl_X5_37 rfl (so_l0 hsh ho) (so_t0 hsh ho) (by first | exact Or.inl rfl | exact Or.inr rfl) ?_
      first
        | exact key _ (by
            have q : aWet (upd (aC o I) 0 (zn (I o 12))) = upd (aC o I) 0 (zn (I o 12)) := by
              unfold aWet
              rw [upd_s, upd_n (by decide), if_neg (Int32.not_lt.mpr (by rw [u2_k (by decide)] at h11; exact h11))]
            rw [q]
            exact p1)
        | exact key _ (by
            have p2 := Pst.put (S := S) ho p1.2.1 (x := o) (k := 8) (v := 1) (by omega) (by omega) (aC_sc (j := 4) (by decide) _)
            rw [p1.1] at p2
            have q : aWet (upd (aC o I) 0 (zn (I o 12))) = upd (upd (aC o I) 0 (zn (I o 12))) 4 1 := by
              unfold aWet
              rw [upd_s, upd_n (by decide), if_pos (Int32.not_le.mp (by rw [u2_k (by decide)] at h11; exact h11)), upd_n (by decide), if_pos (by rw [u2_k (by decide)] at h19; exact h19)]
            rw [q]
            exact p1.tr p2)
        | exact key _ (by
            have p2 := Pst.put (S := S) ho p1.2.1 (x := o) (k := 8) (v := 0) (by omega) (by omega) (aC_sc (j := 4) (by decide) _)
            rw [p1.1] at p2
            have q : aWet (upd (aC o I) 0 (zn (I o 12))) = upd (upd (aC o I) 0 (zn (I o 12))) 4 0 := by
              unfold aWet
              rw [upd_s, upd_n (by decide), if_pos (Int32.not_le.mp (by rw [u2_k (by decide)] at h11; exact h11)), upd_n (by decide), if_neg (by rw [u2_k (by decide)] at h19; exact h19)]
            rw [q]
            exact p1.tr p2)
    · refine P_iconst (pc' := 23) dX5_passHour_22 rfl (v := 1) rfl ?_
      refine P_goto (tgt := 27) dX5_passHour_23 rfl ?_
      refine P_putz (pc' := 30) dX5_passHour_27 rfl fl_X5_37 rfl (so_l0 hsh ho) (so_t0 hsh ho) (by first | exact Or.inl rfl | exact Or.inr rfl) ?_
      first
        | exact key _ (by
            have q : aWet (upd (aC o I) 0 (zn (I o 12))) = upd (aC o I) 0 (zn (I o 12)) := by
              unfold aWet
              rw [upd_s, upd_n (by decide), if_neg (Int32.not_lt.mpr (by rw [u2_k (by decide)] at h11; exact h11))]
            rw [q]
            exact p1)
        | exact key _ (by
            have p2 := Pst.put (S := S) ho p1.2.1 (x := o) (k := 8) (v := 1) (by omega) (by omega) (aC_sc (j := 4) (by decide) _)
            rw [p1.1] at p2
            have q : aWet (upd (aC o I) 0 (zn (I o 12))) = upd (upd (aC o I) 0 (zn (I o 12))) 4 1 := by
              unfold aWet
              rw [upd_s, upd_n (by decide), if_pos (Int32.not_le.mp (by rw [u2_k (by decide)] at h11; exact h11)), upd_n (by decide), if_pos (by rw [u2_k (by decide)] at h19; exact h19)]
            rw [q]
            exact p1.tr p2)
        | exact key _ (by
            have p2 := Pst.put (S := S) ho p1.2.1 (x := o) (k := 8) (v := 0) (by omega) (by omega) (aC_sc (j := 4) (by decide) _)
            rw [p1.1] at p2
            have q : aWet (upd (aC o I) 0 (zn (I o 12))) = upd (upd (aC o I) 0 (zn (I o 12))) 4 0 := by
              unfold aWet
              rw [upd_s, upd_n (by decide), if_pos (Int32.not_le.mp (by rw [u2_k (by decide)] at h11; exact h11)), upd_n (by decide), if_neg (by rw [u2_k (by decide)] at h19; exact h19)]
            rw [q]
            exact p1.tr p2)

