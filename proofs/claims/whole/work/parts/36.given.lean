def vGiv (al : Int32 → Int32 → Int32 → Int32) (A : Nat → Int32) (b c m g : Int32) : Int32 := if wi b 0 (A 1 - 1) = 0 then -1000000001 else if wi c 1 9 = 0 then -1000000001 else if wi m 0 9 = 0 then -1000000001 else if wi g 0 9 = 0 then -1000000001 else aGift al A b.toNatClampNeg c.toNatClampNeg m g.toNatClampNeg
theorem x_given {G : GX} {S : Shp} {I T : Mem} {d tn bn : Nat} {tx : Nat → Tx} (hK : K S I T tn bn tx) (b c m g : Int32) (hd : 12 ≤ d) : PM G yX8_given cX8_given 5 (some .int) d 0 0 [.ref 0, .int b, .int c, .int m, .int g] S I (CO I T tn bn tx (vGiv (alX tn tx) (aR T) b c m g)) := by
  obtain ⟨n, hn, hw, hA, hz, ht⟩ := hK.n
  have hsh := hK.2.1
  refine PM.of (ls := [some (.ref 0), some (.int b), some (.int c), some (.int m), some (.int g)]) (by decide) rfl (Nat.le_of_ble_eq_true rfl) rfl ?_
  show PW G RX8 "given" _ _ _ _ _ _ _ _ _ _ _ _
  have ev : vGiv (alX tn tx) (aR T) b c m g = if wi b 0 (nI n - 1) = 0 then -1000000001 else if wi c 1 9 = 0 then -1000000001 else if wi m 0 9 = 0 then -1000000001 else if wi g 0 9 = 0 then -1000000001 else aGift (alX tn tx) (aR T) b.toNatClampNeg c.toNatClampNeg m g.toNatClampNeg := by unfold vGiv; rw [hw.1]
  rw [ev]
  refine P_aload0 (pc' := 1) dX8_given_0 rfl ?_
  refine P_iload1 (pc' := 2) dX8_given_1 rfl ?_
  refine P_callV1 (pc' := 5) dX8_given_2 rfl lk_X8_90 (l_0 hsh) (t_0 hsh) (c_X8_isBeggar (d := 1) b hsh hz (by omega)) (by omega) (Nat.le_of_ble_eq_true rfl) (fun r S' I' hq => ?_)
  obtain ⟨rfl, rfl, rfl⟩ := hq
  refine P_if_eq (tgt := 39) (pc' := 8) dX8_given_5 rfl rfl (fun h5 => ?_) (fun h5 => ?_)
  · refine P_ldc (pc' := 41) dX8_given_39 rfl co_X8_81 ?_
    refine P_iret dX8_given_41 ?_
    first
      | (rw [if_pos h5]; exact CO.id hK)
      | (rw [if_neg h5, if_pos h15]; exact CO.id hK)
      | (rw [if_neg h5, if_neg h15, if_pos h25]; exact CO.id hK)
      | (rw [if_neg h5, if_neg h15, if_neg h25, if_pos h36]; exact CO.id hK)
  · refine P_iload2 (pc' := 9) dX8_given_8 rfl ?_
    refine P_iconst (pc' := 10) dX8_given_9 rfl (v := 1) rfl ?_
    refine P_bipush (pc' := 12) dX8_given_10 rfl (v := 9) rfl ?_
    refine P_callS3 (pc' := 15) dX8_given_12 rfl lk_X8_77 (c_X8_wi (d := 0) c 1 9) (by omega) (Nat.le_of_ble_eq_true rfl) (fun r S' I' hq => ?_)
    obtain ⟨rfl, rfl, rfl⟩ := hq
    refine P_if_eq (tgt := 39) (pc' := 18) dX8_given_15 rfl rfl (fun h15 => ?_) (fun h15 => ?_)
    · refine P_ldc (pc' := 41) dX8_given_39 rfl co_X8_81 ?_
      refine P_iret dX8_given_41 ?_
      first
        | (rw [if_pos h5]; exact CO.id hK)
        | (rw [if_neg h5, if_pos h15]; exact CO.id hK)
        | (rw [if_neg h5, if_neg h15, if_pos h25]; exact CO.id hK)
        | (rw [if_neg h5, if_neg h15, if_neg h25, if_pos h36]; exact CO.id hK)
    · refine P_iload3 (pc' := 19) dX8_given_18 rfl ?_
      refine P_iconst (pc' := 20) dX8_given_19 rfl (v := 0) rfl ?_
      refine P_bipush (pc' := 22) dX8_given_20 rfl (v := 9) rfl ?_
      refine P_callS3 (pc' := 25) dX8_given_22 rfl lk_X8_77 (c_X8_wi (d := 0) m 0 9) (by omega) (Nat.le_of_ble_eq_true rfl) (fun r S' I' hq => ?_)
      obtain ⟨rfl, rfl, rfl⟩ := hq
      refine P_if_eq (tgt := 39) (pc' := 28) dX8_given_25 rfl rfl (fun h25 => ?_) (fun h25 => ?_)
      · refine P_ldc (pc' := 41) dX8_given_39 rfl co_X8_81 ?_
        refine P_iret dX8_given_41 ?_
        first
          | (rw [if_pos h5]; exact CO.id hK)
          | (rw [if_neg h5, if_pos h15]; exact CO.id hK)
          | (rw [if_neg h5, if_neg h15, if_pos h25]; exact CO.id hK)
          | (rw [if_neg h5, if_neg h15, if_neg h25, if_pos h36]; exact CO.id hK)
      · refine P_iload4 (pc' := 30) dX8_given_28 rfl ?_
        refine P_iconst (pc' := 31) dX8_given_30 rfl (v := 0) rfl ?_
        refine P_bipush (pc' := 33) dX8_given_31 rfl (v := 9) rfl ?_
        refine P_callS3 (pc' := 36) dX8_given_33 rfl lk_X8_77 (c_X8_wi (d := 0) g 0 9) (by omega) (Nat.le_of_ble_eq_true rfl) (fun r S' I' hq => ?_)
        obtain ⟨rfl, rfl, rfl⟩ := hq
        refine P_if_ne (tgt := 42) (pc' := 39) dX8_given_36 rfl rfl (fun h36 => ?_) (fun h36 => ?_)
        · obtain ⟨j, hj, rfl⟩ := wi_n (by omega) h5
          obtain ⟨c', c1, c9, rfl⟩ := wi_b1 (m := 9) (by decide) h15
          obtain ⟨g', g9, rfl⟩ := wi_b (m := 9) (by decide) h36
          refine P_aload0 (pc' := 43) dX8_given_42 rfl ?_
          refine P_getr (pc' := 46) dX8_given_43 rfl fl_X8_47 rfl (l_0 hsh) (t_0 hsh) (q_0_7 hsh) ?_
          refine P_aload0 (pc' := 47) dX8_given_46 rfl ?_
          refine P_iconst (pc' := 48) dX8_given_47 rfl (v := 0) rfl ?_
          refine P_aload0 (pc' := 49) dX8_given_48 rfl ?_
          refine P_getr (pc' := 52) dX8_given_49 rfl fl_X8_10 rfl (l_0 hsh) (t_0 hsh) (q_0_0 hsh) ?_
          refine P_geti (pc' := 55) dX8_given_52 rfl fl_X8_117 rfl (l_1 hsh) (t_1 hsh) ?_
          refine P_as ht ?_
          refine P_callV2 (pc' := 58) dX8_given_55 rfl lk_X8_119 (l_0 hsh) (t_0 hsh) (c_X8_counting (d := 3) (k := 0) hsh hK.2.2.2.2.1 (by decide) (Nat.le_refl tn) (by omega)) (by omega) (Nat.le_of_ble_eq_true rfl) (fun r S' I' hq => ?_)
          obtain ⟨rfl, rfl, rfl⟩ := hq
          refine P_callV1 (pc' := 61) dX8_given_58 rfl lk_X8_123 (l_27 hsh) (t_27 hsh) (c_X0_follow (d := 1) (ctP S tx 0 tn) hsh hK.fx hK.fy (by omega)) (by omega) (Nat.le_of_ble_eq_true rfl) (fun r S2 I2 hq => ?_); obtain ⟨rfl, hS2, hI2⟩ := hq; obtain ⟨hK2, hal2, hf2⟩ := fol_all hK (Nat.le_refl tn) hS2 hI2; have hsh2 := hK2.2.1
          refine P_aload0 (pc' := 62) dX8_given_61 rfl ?_
          refine P_getr (pc' := 65) dX8_given_62 rfl fl_X8_10 rfl (l_0 hsh2) (t_0 hsh2) (q_0_0 hsh2) ?_
          refine P_iload1 (pc' := 66) dX8_given_65 rfl ?_
          refine P_iload2 (pc' := 67) dX8_given_66 rfl ?_
          refine P_iload3 (pc' := 68) dX8_given_67 rfl ?_
          refine P_iload4 (pc' := 70) dX8_given_68 rfl ?_
          refine P_aload0 (pc' := 71) dX8_given_70 rfl ?_
          refine P_getr (pc' := 74) dX8_given_71 rfl fl_X8_47 rfl (l_0 hsh2) (t_0 hsh2) (q_0_7 hsh2) ?_
          refine P_callV5 (pc' := 77) dX8_given_74 rfl lk_X8_127 (l_1 hsh2) (t_1 hsh2) (c_X5_giftTo (d := 3) (n := n) hsh2 (Or.inl rfl) hal2 (by rw [hK2.2.2.1]; exact hw) (by omega) c1 c9 g9 (by omega)) (by omega) (Nat.le_of_ble_eq_true rfl) (fun r S3 I3 hq => ?_); obtain ⟨rfl, rfl, hP⟩ := hq
          refine P_iret dX8_given_77 ?_
          rw [if_neg h5, if_neg h15, if_neg h25, if_neg h36, nI_clamp (by omega), nI_clamp (by omega), nI_clamp (by omega), hK2.2.2.1]
          have hK3 := hK2.ps hP (by rw [hK2.2.2.1]; exact hK.1.1) (by rw [hK2.2.2.1])
          rw [hK2.2.2.1, nw_id] at hK3
          exact ⟨rfl, hK3, fun x h1 h2 => by rw [hP.2.2 x (by unfold Scr; omega) (by omega), hf2 x (by omega)]⟩
        · refine P_ldc (pc' := 41) dX8_given_39 rfl co_X8_81 ?_
          refine P_iret dX8_given_41 ?_
          first
            | (rw [if_pos h5]; exact CO.id hK)
            | (rw [if_neg h5, if_pos h15]; exact CO.id hK)
            | (rw [if_neg h5, if_neg h15, if_pos h25]; exact CO.id hK)
            | (rw [if_neg h5, if_neg h15, if_neg h25, if_pos h36]; exact CO.id hK)

