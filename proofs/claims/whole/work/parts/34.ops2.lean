def vAs (A : Nat → Int32) (b k : Int32) : Int32 := if wi b 0 (A 1 - 1) = 0 then -1000000001 else if wi k 0 5 = 0 then -1000000001 else if ofF 6 (A (16 + 5 * b.toNatClampNeg)) k = 0 then -1000000012 else A (18 + 5 * b.toNatClampNeg)
theorem x_as {G : GX} {S : Shp} {I T : Mem} {d tn bn : Nat} {tx : Nat → Tx} (hK : K S I T tn bn tx) (b k : Int32) (hd : 12 ≤ d) : PM G yX8_as cX8_as 3 (some .int) d 0 0 [.ref 0, .int b, .int k] S I (CO I T tn bn tx (vAs (aR T) b k)) := by
  obtain ⟨n, hn, hw, hA, hz, ht⟩ := hK.n
  have hsh := hK.2.1
  refine PM.of (ls := [some (.ref 0), some (.int b), some (.int k)]) (by decide) rfl (Nat.le_of_ble_eq_true rfl) rfl ?_
  show PW G RX8 "as" _ _ _ _ _ _ _ _ _ _ _ _
  by_cases hb : wi b 0 (nI n - 1) = 0
  · rw [show vAs (aR T) b k = -1000000001 by unfold vAs; rw [hw.1, if_pos hb]]
    refine P_aload0 (pc' := 1) dX8_as_0 rfl ?_
    refine P_iload1 (pc' := 2) dX8_as_1 rfl ?_
    refine P_callV1 (pc' := 5) dX8_as_2 rfl lk_X8_90 (l_0 hsh) (t_0 hsh) (c_X8_isBeggar (d := 1) b hsh hz (by omega)) (by omega) (Nat.le_of_ble_eq_true rfl) (fun r S' I' hq => ?_)
    obtain ⟨rfl, rfl, rfl⟩ := hq
    refine P_if_eq (tgt := 15) (pc' := 8) dX8_as_5 rfl rfl (fun h5 => ?_) (fun h5 => ?_)
    · refine P_ldc (pc' := 17) dX8_as_15 rfl co_X8_81 ?_
      refine P_iret dX8_as_17 ?_
      exact CO.id hK
    · exact absurd hb h5
  · obtain ⟨j, hj, rfl⟩ := wi_n (by omega) hb
    obtain ⟨r0, r1, r2, r3, r4⟩ := hK.rd (show j < 9 by omega)
    rw [show vAs (aR T) (nI j) k = if wi k 0 5 = 0 then -1000000001 else if ofF 6 (aR T (16 + 5 * j)) k = 0 then -1000000012 else aR T (18 + 5 * j) by unfold vAs; rw [hw.1, if_neg hb, nI_clamp (by omega)]]
    refine P_aload0 (pc' := 1) dX8_as_0 rfl ?_
    refine P_iload1 (pc' := 2) dX8_as_1 rfl ?_
    refine P_callV1 (pc' := 5) dX8_as_2 rfl lk_X8_90 (l_0 hsh) (t_0 hsh) (c_X8_isBeggar (d := 1) (nI j) hsh hz (by omega)) (by omega) (Nat.le_of_ble_eq_true rfl) (fun r S' I' hq => ?_)
    obtain ⟨rfl, rfl, rfl⟩ := hq
    refine P_if_eq (tgt := 15) (pc' := 8) dX8_as_5 rfl rfl (fun h5 => ?_) (fun h5 => ?_)
    · exact absurd h5 hb
    · refine P_iload2 (pc' := 9) dX8_as_8 rfl ?_
      refine P_callS1 (pc' := 12) dX8_as_9 rfl lk_X8_73 (c_X8_isKind (d := 1) k (by omega)) (by omega) (Nat.le_of_ble_eq_true rfl) (fun r S' I' hq => ?_)
      obtain ⟨rfl, rfl, rfl⟩ := hq
      refine P_if_ne (tgt := 18) (pc' := 15) dX8_as_12 rfl rfl (fun h12 => ?_) (fun h12 => ?_)
      · refine P_aload0 (pc' := 19) dX8_as_18 rfl ?_
        refine P_getr (pc' := 22) dX8_as_19 rfl fl_X8_10 rfl (l_0 hsh) (t_0 hsh) (q_0_0 hsh) ?_
        refine P_getr (pc' := 25) dX8_as_22 rfl fl_X8_93 rfl (l_1 hsh) (t_1 hsh) (q_1_1 hsh) ?_
        refine P_iload1 (pc' := 26) dX8_as_25 rfl ?_
        refine P_iald (pc' := 27) dX8_as_26 rfl (l_3 hsh) (t_3 hsh) (j := j) rfl (by omega) (by decide) ?_
        refine P_as r0 ?_
        refine P_iload2 (pc' := 28) dX8_as_27 rfl ?_
        refine P_callS2 (pc' := 31) dX8_as_28 rfl lk_X8_131 (c_X1_isOf (d := 1) _ _ (by omega)) (by omega) (Nat.le_of_ble_eq_true rfl) (fun r S' I' hq => ?_)
        obtain ⟨rfl, rfl, rfl⟩ := hq
        refine P_if_eq (tgt := 46) (pc' := 34) dX8_as_31 rfl rfl (fun h31 => ?_) (fun h31 => ?_)
        · refine P_ldc (pc' := 48) dX8_as_46 rfl co_X8_135 ?_
          refine P_iret dX8_as_48 ?_
          rw [if_neg h12]
          first
            | (rw [if_pos h31]; exact CO.id hK)
            | (rw [if_neg h31]; exact CO.id hK)
        · refine P_aload0 (pc' := 35) dX8_as_34 rfl ?_
          refine P_getr (pc' := 38) dX8_as_35 rfl fl_X8_10 rfl (l_0 hsh) (t_0 hsh) (q_0_0 hsh) ?_
          refine P_getr (pc' := 41) dX8_as_38 rfl fl_X8_99 rfl (l_1 hsh) (t_1 hsh) (q_1_3 hsh) ?_
          refine P_iload1 (pc' := 42) dX8_as_41 rfl ?_
          refine P_iald (pc' := 43) dX8_as_42 rfl (l_5 hsh) (t_5 hsh) (j := j) rfl (by omega) (by decide) ?_
          refine P_as r2 ?_
          refine P_goto (tgt := 48) dX8_as_43 rfl ?_
          refine P_iret dX8_as_48 ?_
          rw [if_neg h12]
          first
            | (rw [if_pos h31]; exact CO.id hK)
            | (rw [if_neg h31]; exact CO.id hK)
      · refine P_ldc (pc' := 17) dX8_as_15 rfl co_X8_81 ?_
        refine P_iret dX8_as_17 ?_
        rw [if_pos h12]
        exact CO.id hK
def oTur (A : Nat → Int32) (b k : Int32) : Int32 × (Nat → Int32) := if wi b 0 (A 1 - 1) = 0 then (-1000000001, A) else if wi k 0 5 = 0 then (-1000000001, A) else (A (16 + 5 * b.toNatClampNeg), upd A (16 + 5 * b.toNatClampNeg) k)
theorem x_turns {G : GX} {S : Shp} {I T : Mem} {d tn bn : Nat} {tx : Nat → Tx} (hK : K S I T tn bn tx) (b k : Int32) (hd : 12 ≤ d) : PM G yX8_turns cX8_turns 4 (some .int) d 0 0 [.ref 0, .int b, .int k] S I (CO I (nw T (oTur (aR T) b k).2) tn bn tx (oTur (aR T) b k).1) := by
  obtain ⟨n, hn, hw, hA, hz, ht⟩ := hK.n
  have hsh := hK.2.1
  refine PM.of (ls := [some (.ref 0), some (.int b), some (.int k), none]) (by decide) rfl (Nat.le_of_ble_eq_true rfl) rfl ?_
  show PW G RX8 "turns" _ _ _ _ _ _ _ _ _ _ _ _
  by_cases hb : wi b 0 (nI n - 1) = 0
  · skip
    refine P_aload0 (pc' := 1) dX8_turns_0 rfl ?_
    refine P_iload1 (pc' := 2) dX8_turns_1 rfl ?_
    refine P_callV1 (pc' := 5) dX8_turns_2 rfl lk_X8_90 (l_0 hsh) (t_0 hsh) (c_X8_isBeggar (d := 1) b hsh hz (by omega)) (by omega) (Nat.le_of_ble_eq_true rfl) (fun r S' I' hq => ?_)
    obtain ⟨rfl, rfl, rfl⟩ := hq
    refine P_if_eq (tgt := 15) (pc' := 8) dX8_turns_5 rfl rfl (fun h5 => ?_) (fun h5 => ?_)
    · refine P_ldc (pc' := 17) dX8_turns_15 rfl co_X8_81 ?_
      refine P_iret dX8_turns_17 ?_
      refine CO.of ?_ hK
      unfold oTur
      rw [hw.1, if_pos hb]
    · exact absurd hb h5
  · obtain ⟨j, hj, rfl⟩ := wi_n (by omega) hb
    obtain ⟨r0, r1, r2, r3, r4⟩ := hK.rd (show j < 9 by omega)
    have ej : (nI j).toNatClampNeg = j := nI_clamp (by omega)
    refine P_aload0 (pc' := 1) dX8_turns_0 rfl ?_
    refine P_iload1 (pc' := 2) dX8_turns_1 rfl ?_
    refine P_callV1 (pc' := 5) dX8_turns_2 rfl lk_X8_90 (l_0 hsh) (t_0 hsh) (c_X8_isBeggar (d := 1) (nI j) hsh hz (by omega)) (by omega) (Nat.le_of_ble_eq_true rfl) (fun r S' I' hq => ?_)
    obtain ⟨rfl, rfl, rfl⟩ := hq
    refine P_if_eq (tgt := 15) (pc' := 8) dX8_turns_5 rfl rfl (fun h5 => ?_) (fun h5 => ?_)
    · exact absurd h5 hb
    · refine P_iload2 (pc' := 9) dX8_turns_8 rfl ?_
      refine P_callS1 (pc' := 12) dX8_turns_9 rfl lk_X8_73 (c_X8_isKind (d := 1) k (by omega)) (by omega) (Nat.le_of_ble_eq_true rfl) (fun r S' I' hq => ?_)
      obtain ⟨rfl, rfl, rfl⟩ := hq
      refine P_if_ne (tgt := 18) (pc' := 15) dX8_turns_12 rfl rfl (fun h12 => ?_) (fun h12 => ?_)
      · refine P_aload0 (pc' := 19) dX8_turns_18 rfl ?_
        refine P_getr (pc' := 22) dX8_turns_19 rfl fl_X8_10 rfl (l_0 hsh) (t_0 hsh) (q_0_0 hsh) ?_
        refine P_getr (pc' := 25) dX8_turns_22 rfl fl_X8_93 rfl (l_1 hsh) (t_1 hsh) (q_1_1 hsh) ?_
        refine P_iload1 (pc' := 26) dX8_turns_25 rfl ?_
        refine P_iald (pc' := 27) dX8_turns_26 rfl (l_3 hsh) (t_3 hsh) (j := j) rfl (by omega) (by decide) ?_
        refine P_as r0 ?_
        refine P_istore3 (pc' := 28) dX8_turns_27 rfl (by decide) rfl ?_
        refine P_aload0 (pc' := 29) dX8_turns_28 rfl ?_
        refine P_getr (pc' := 32) dX8_turns_29 rfl fl_X8_10 rfl (l_0 hsh) (t_0 hsh) (q_0_0 hsh) ?_
        refine P_getr (pc' := 35) dX8_turns_32 rfl fl_X8_93 rfl (l_1 hsh) (t_1 hsh) (q_1_1 hsh) ?_
        refine P_iload1 (pc' := 36) dX8_turns_35 rfl ?_
        refine P_iload2 (pc' := 37) dX8_turns_36 rfl ?_
        refine P_iast (pc' := 38) dX8_turns_37 rfl (l_3 hsh) (t_3 hsh) (j := j) rfl (by omega) (by decide) ?_
        refine P_iload3 (pc' := 39) dX8_turns_38 rfl ?_
        refine P_iret dX8_turns_39 ?_
        refine CO.u (A := upd (aR T) (16 + 5 * j) k) ?_ hK (by decide) (by decide) ?_ (hK.1.1.up (fun m _ hm => hm.wb (by omega) (wi_k h12)) (by omega) (fun b => by omega) (fun c _ z => by omega)) (upd_n (by omega))
        · unfold oTur
          rw [hw.1, if_neg hb, if_neg h12, ej]
        · rw [← hA]
          exact aC_wk (o := 1) (by omega) k
      · refine P_ldc (pc' := 17) dX8_turns_15 rfl co_X8_81 ?_
        refine P_iret dX8_turns_17 ?_
        refine CO.of ?_ hK
        unfold oTur
        rw [hw.1, if_neg hb, if_pos h12]
def oSet (A : Nat → Int32) (b y v : Int32) : Int32 × (Nat → Int32) := if wi b 0 (A 1 - 1) = 0 then (-1000000001, A) else if y = 1 then (if wi v 0 8 = 0 then (-1000000001, A) else (A (17 + 5 * b.toNatClampNeg), upd A (17 + 5 * b.toNatClampNeg) v)) else if y = 2 then (if wi v 0 20 = 0 then (-1000000001, A) else (A (18 + 5 * b.toNatClampNeg), upd A (18 + 5 * b.toNatClampNeg) v)) else (-1000000001, A)
theorem x_set {G : GX} {S : Shp} {I T : Mem} {d tn bn : Nat} {tx : Nat → Tx} (hK : K S I T tn bn tx) (b y v : Int32) (hd : 12 ≤ d) : PM G yX8_set cX8_set 5 (some .int) d 0 0 [.ref 0, .int b, .int y, .int v] S I (CO I (nw T (oSet (aR T) b y v).2) tn bn tx (oSet (aR T) b y v).1) := by
  obtain ⟨n, hn, hw, hA, hz, ht⟩ := hK.n
  have hsh := hK.2.1
  refine PM.of (ls := [some (.ref 0), some (.int b), some (.int y), some (.int v), none]) (by decide) rfl (Nat.le_of_ble_eq_true rfl) rfl ?_
  show PW G RX8 "set" _ _ _ _ _ _ _ _ _ _ _ _
  by_cases hb : wi b 0 (nI n - 1) = 0
  · skip
    refine P_aload0 (pc' := 1) dX8_set_0 rfl ?_
    refine P_iload1 (pc' := 2) dX8_set_1 rfl ?_
    refine P_callV1 (pc' := 5) dX8_set_2 rfl lk_X8_90 (l_0 hsh) (t_0 hsh) (c_X8_isBeggar (d := 1) b hsh hz (by omega)) (by omega) (Nat.le_of_ble_eq_true rfl) (fun r S' I' hq => ?_)
    obtain ⟨rfl, rfl, rfl⟩ := hq
    refine P_if_ne (tgt := 11) (pc' := 8) dX8_set_5 rfl rfl (fun h5 => ?_) (fun h5 => ?_)
    · exact absurd hb h5
    · refine P_ldc (pc' := 10) dX8_set_8 rfl co_X8_81 ?_
      refine P_iret dX8_set_10 ?_
      refine CO.of ?_ hK
      unfold oSet
      rw [hw.1, if_pos hb]
  · obtain ⟨j, hj, rfl⟩ := wi_n (by omega) hb
    obtain ⟨r0, r1, r2, r3, r4⟩ := hK.rd (show j < 9 by omega)
    have ej : (nI j).toNatClampNeg = j := nI_clamp (by omega)
    refine P_aload0 (pc' := 1) dX8_set_0 rfl ?_
    refine P_iload1 (pc' := 2) dX8_set_1 rfl ?_
    refine P_callV1 (pc' := 5) dX8_set_2 rfl lk_X8_90 (l_0 hsh) (t_0 hsh) (c_X8_isBeggar (d := 1) (nI j) hsh hz (by omega)) (by omega) (Nat.le_of_ble_eq_true rfl) (fun r S' I' hq => ?_)
    obtain ⟨rfl, rfl, rfl⟩ := hq
    refine P_if_ne (tgt := 11) (pc' := 8) dX8_set_5 rfl rfl (fun h5 => ?_) (fun h5 => ?_)
    · refine P_iload2 (pc' := 12) dX8_set_11 rfl ?_
      refine P_iconst (pc' := 13) dX8_set_12 rfl (v := 1) rfl ?_
      refine P_icmp_ne (tgt := 50) (pc' := 16) dX8_set_13 rfl rfl (fun h13 => ?_) (fun h13 => ?_)
      · refine P_iload2 (pc' := 51) dX8_set_50 rfl ?_
        refine P_iconst (pc' := 52) dX8_set_51 rfl (v := 2) rfl ?_
        refine P_icmp_ne (tgt := 89) (pc' := 55) dX8_set_52 rfl rfl (fun h52 => ?_) (fun h52 => ?_)
        · refine P_ldc (pc' := 91) dX8_set_89 rfl co_X8_81 ?_
          refine P_iret dX8_set_91 ?_
          first
            | (refine CO.of ?_ hK; unfold oSet; rw [hw.1, if_neg hb, if_pos h13, if_pos h23])
            | (refine CO.of ?_ hK; unfold oSet; rw [hw.1, if_neg hb, if_neg h13, if_neg h52])
            | (refine CO.of ?_ hK; unfold oSet; rw [hw.1, if_neg hb, if_neg h13, if_pos h52, if_pos h62])
            | exact absurd (h13.symm.trans h52) (by decide)
        · refine P_iload3 (pc' := 56) dX8_set_55 rfl ?_
          refine P_iconst (pc' := 57) dX8_set_56 rfl (v := 0) rfl ?_
          refine P_bipush (pc' := 59) dX8_set_57 rfl (v := 20) rfl ?_
          refine P_callS3 (pc' := 62) dX8_set_59 rfl lk_X8_77 (c_X8_wi (d := 0) v 0 20) (by omega) (Nat.le_of_ble_eq_true rfl) (fun r S' I' hq => ?_)
          obtain ⟨rfl, rfl, rfl⟩ := hq
          refine P_if_eq (tgt := 89) (pc' := 65) dX8_set_62 rfl rfl (fun h62 => ?_) (fun h62 => ?_)
          · refine P_ldc (pc' := 91) dX8_set_89 rfl co_X8_81 ?_
            refine P_iret dX8_set_91 ?_
            first
              | (refine CO.of ?_ hK; unfold oSet; rw [hw.1, if_neg hb, if_pos h13, if_pos h23])
              | (refine CO.of ?_ hK; unfold oSet; rw [hw.1, if_neg hb, if_neg h13, if_neg h52])
              | (refine CO.of ?_ hK; unfold oSet; rw [hw.1, if_neg hb, if_neg h13, if_pos h52, if_pos h62])
              | exact absurd (h13.symm.trans h52) (by decide)
          · refine P_aload0 (pc' := 66) dX8_set_65 rfl ?_
            refine P_getr (pc' := 69) dX8_set_66 rfl fl_X8_10 rfl (l_0 hsh) (t_0 hsh) (q_0_0 hsh) ?_
            refine P_getr (pc' := 72) dX8_set_69 rfl fl_X8_99 rfl (l_1 hsh) (t_1 hsh) (q_1_3 hsh) ?_
            refine P_iload1 (pc' := 73) dX8_set_72 rfl ?_
            refine P_iald (pc' := 74) dX8_set_73 rfl (l_5 hsh) (t_5 hsh) (j := j) rfl (by omega) (by decide) ?_
            refine P_as r2 ?_
            refine P_istore4 (pc' := 76) dX8_set_74 rfl (by decide) rfl ?_
            obtain ⟨c, hc, rfl⟩ := wi_b (m := 20) (by decide) h62
            refine P_aload0 (pc' := 77) dX8_set_76 rfl ?_
            refine P_getr (pc' := 80) dX8_set_77 rfl fl_X8_10 rfl (l_0 hsh) (t_0 hsh) (q_0_0 hsh) ?_
            refine P_getr (pc' := 83) dX8_set_80 rfl fl_X8_99 rfl (l_1 hsh) (t_1 hsh) (q_1_3 hsh) ?_
            refine P_iload1 (pc' := 84) dX8_set_83 rfl ?_
            refine P_iload3 (pc' := 85) dX8_set_84 rfl ?_
            refine P_iast (pc' := 86) dX8_set_85 rfl (l_5 hsh) (t_5 hsh) (j := j) rfl (by omega) (by decide) ?_
            refine P_iload4 (pc' := 88) dX8_set_86 rfl ?_
            refine P_iret dX8_set_88 ?_
            try exact absurd (h13.symm.trans h52) (by decide)
            all_goals refine CO.u (A := upd (aR T) (18 + 5 * j) (nI c)) ?_ hK (by decide) (by decide) ?_ (hK.1.1.up (fun m _ hm => hm.ws (by omega) hc) (by omega) (fun b => by omega) (fun c _ z => by omega)) (upd_n (by omega))
            all_goals first
              | (unfold oSet; rw [hw.1, if_neg hb, if_neg h13, if_pos h52, if_neg h62, ej])
              | (rw [← hA]; exact aC_ws (o := 1) (by omega) (nI c))
      · refine P_iload3 (pc' := 17) dX8_set_16 rfl ?_
        refine P_iconst (pc' := 18) dX8_set_17 rfl (v := 0) rfl ?_
        refine P_bipush (pc' := 20) dX8_set_18 rfl (v := 8) rfl ?_
        refine P_callS3 (pc' := 23) dX8_set_20 rfl lk_X8_77 (c_X8_wi (d := 0) v 0 8) (by omega) (Nat.le_of_ble_eq_true rfl) (fun r S' I' hq => ?_)
        obtain ⟨rfl, rfl, rfl⟩ := hq
        refine P_if_eq (tgt := 50) (pc' := 26) dX8_set_23 rfl rfl (fun h23 => ?_) (fun h23 => ?_)
        · refine P_iload2 (pc' := 51) dX8_set_50 rfl ?_
          refine P_iconst (pc' := 52) dX8_set_51 rfl (v := 2) rfl ?_
          refine P_icmp_ne (tgt := 89) (pc' := 55) dX8_set_52 rfl rfl (fun h52 => ?_) (fun h52 => ?_)
          · refine P_ldc (pc' := 91) dX8_set_89 rfl co_X8_81 ?_
            refine P_iret dX8_set_91 ?_
            first
              | (refine CO.of ?_ hK; unfold oSet; rw [hw.1, if_neg hb, if_pos h13, if_pos h23])
              | (refine CO.of ?_ hK; unfold oSet; rw [hw.1, if_neg hb, if_neg h13, if_neg h52])
              | (refine CO.of ?_ hK; unfold oSet; rw [hw.1, if_neg hb, if_neg h13, if_pos h52, if_pos h62])
              | exact absurd (h13.symm.trans h52) (by decide)
          · refine P_iload3 (pc' := 56) dX8_set_55 rfl ?_
            refine P_iconst (pc' := 57) dX8_set_56 rfl (v := 0) rfl ?_
            refine P_bipush (pc' := 59) dX8_set_57 rfl (v := 20) rfl ?_
            refine P_callS3 (pc' := 62) dX8_set_59 rfl lk_X8_77 (c_X8_wi (d := 0) v 0 20) (by omega) (Nat.le_of_ble_eq_true rfl) (fun r S' I' hq => ?_)
            obtain ⟨rfl, rfl, rfl⟩ := hq
            refine P_if_eq (tgt := 89) (pc' := 65) dX8_set_62 rfl rfl (fun h62 => ?_) (fun h62 => ?_)
            · refine P_ldc (pc' := 91) dX8_set_89 rfl co_X8_81 ?_
              refine P_iret dX8_set_91 ?_
              first
                | (refine CO.of ?_ hK; unfold oSet; rw [hw.1, if_neg hb, if_pos h13, if_pos h23])
                | (refine CO.of ?_ hK; unfold oSet; rw [hw.1, if_neg hb, if_neg h13, if_neg h52])
                | (refine CO.of ?_ hK; unfold oSet; rw [hw.1, if_neg hb, if_neg h13, if_pos h52, if_pos h62])
                | exact absurd (h13.symm.trans h52) (by decide)
            · refine P_aload0 (pc' := 66) dX8_set_65 rfl ?_
              refine P_getr (pc' := 69) dX8_set_66 rfl fl_X8_10 rfl (l_0 hsh) (t_0 hsh) (q_0_0 hsh) ?_
              refine P_getr (pc' := 72) dX8_set_69 rfl fl_X8_99 rfl (l_1 hsh) (t_1 hsh) (q_1_3 hsh) ?_
              refine P_iload1 (pc' := 73) dX8_set_72 rfl ?_
              refine P_iald (pc' := 74) dX8_set_73 rfl (l_5 hsh) (t_5 hsh) (j := j) rfl (by omega) (by decide) ?_
              refine P_as r2 ?_
              refine P_istore4 (pc' := 76) dX8_set_74 rfl (by decide) rfl ?_
              obtain ⟨c, hc, rfl⟩ := wi_b (m := 20) (by decide) h62
              refine P_aload0 (pc' := 77) dX8_set_76 rfl ?_
              refine P_getr (pc' := 80) dX8_set_77 rfl fl_X8_10 rfl (l_0 hsh) (t_0 hsh) (q_0_0 hsh) ?_
              refine P_getr (pc' := 83) dX8_set_80 rfl fl_X8_99 rfl (l_1 hsh) (t_1 hsh) (q_1_3 hsh) ?_
              refine P_iload1 (pc' := 84) dX8_set_83 rfl ?_
              refine P_iload3 (pc' := 85) dX8_set_84 rfl ?_
              refine P_iast (pc' := 86) dX8_set_85 rfl (l_5 hsh) (t_5 hsh) (j := j) rfl (by omega) (by decide) ?_
              refine P_iload4 (pc' := 88) dX8_set_86 rfl ?_
              refine P_iret dX8_set_88 ?_
              try exact absurd (h13.symm.trans h52) (by decide)
              all_goals refine CO.u (A := upd (aR T) (18 + 5 * j) (nI c)) ?_ hK (by decide) (by decide) ?_ (hK.1.1.up (fun m _ hm => hm.ws (by omega) hc) (by omega) (fun b => by omega) (fun c _ z => by omega)) (upd_n (by omega))
              all_goals first
                | (unfold oSet; rw [hw.1, if_neg hb, if_neg h13, if_pos h52, if_neg h62, ej])
                | (rw [← hA]; exact aC_ws (o := 1) (by omega) (nI c))
        · refine P_aload0 (pc' := 27) dX8_set_26 rfl ?_
          refine P_getr (pc' := 30) dX8_set_27 rfl fl_X8_10 rfl (l_0 hsh) (t_0 hsh) (q_0_0 hsh) ?_
          refine P_getr (pc' := 33) dX8_set_30 rfl fl_X8_96 rfl (l_1 hsh) (t_1 hsh) (q_1_2 hsh) ?_
          refine P_iload1 (pc' := 34) dX8_set_33 rfl ?_
          refine P_iald (pc' := 35) dX8_set_34 rfl (l_4 hsh) (t_4 hsh) (j := j) rfl (by omega) (by decide) ?_
          refine P_as r1 ?_
          refine P_istore4 (pc' := 37) dX8_set_35 rfl (by decide) rfl ?_
          obtain ⟨c, hc, rfl⟩ := wi_b (m := 8) (by decide) h23
          refine P_aload0 (pc' := 38) dX8_set_37 rfl ?_
          refine P_getr (pc' := 41) dX8_set_38 rfl fl_X8_10 rfl (l_0 hsh) (t_0 hsh) (q_0_0 hsh) ?_
          refine P_getr (pc' := 44) dX8_set_41 rfl fl_X8_96 rfl (l_1 hsh) (t_1 hsh) (q_1_2 hsh) ?_
          refine P_iload1 (pc' := 45) dX8_set_44 rfl ?_
          refine P_iload3 (pc' := 46) dX8_set_45 rfl ?_
          refine P_iast (pc' := 47) dX8_set_46 rfl (l_4 hsh) (t_4 hsh) (j := j) rfl (by omega) (by decide) ?_
          refine P_iload4 (pc' := 49) dX8_set_47 rfl ?_
          refine P_iret dX8_set_49 ?_
          refine CO.u (A := upd (aR T) (17 + 5 * j) (nI c)) ?_ hK (by decide) (by decide) ?_ (hK.1.1.up (fun m _ hm => hm.wc (by omega) hc) (by omega) (fun b => by omega) (fun c _ z => by omega)) (upd_n (by omega))
          · unfold oSet
            rw [hw.1, if_neg hb, if_pos h13, if_neg h23, ej]
          · rw [← hA]
            exact aC_wc (o := 1) (by omega) (nI c)
    · exact absurd h5 hb
def oRent (A : Nat → Int32) (c v : Int32) : Int32 × (Nat → Int32) := if wi c 0 7 = 0 then (-1000000001, A) else if wi v 0 9 = 0 then (-1000000001, A) else (A (8 + c.toNatClampNeg), upd A (8 + c.toNatClampNeg) v)
theorem x_rent {G : GX} {S : Shp} {I T : Mem} {d tn bn : Nat} {tx : Nat → Tx} (hK : K S I T tn bn tx) (c v : Int32) (hd : 12 ≤ d) : PM G yX8_rent cX8_rent 4 (some .int) d 0 0 [.ref 0, .int c, .int v] S I (CO I (nw T (oRent (aR T) c v).2) tn bn tx (oRent (aR T) c v).1) := by
  obtain ⟨n, hn, hw, hA, hz, ht⟩ := hK.n
  have hsh := hK.2.1
  refine PM.of (ls := [some (.ref 0), some (.int c), some (.int v), none]) (by decide) rfl (Nat.le_of_ble_eq_true rfl) rfl ?_
  show PW G RX8 "rent" _ _ _ _ _ _ _ _ _ _ _ _
  refine P_iload1 (pc' := 1) dX8_rent_0 rfl ?_
  refine P_callS1 (pc' := 4) dX8_rent_1 rfl lk_X8_136 (c_X8_isCorner (d := 1) c (by omega)) (by omega) (Nat.le_of_ble_eq_true rfl) (fun r S' I' hq => ?_)
  obtain ⟨rfl, rfl, rfl⟩ := hq
  refine P_if_eq (tgt := 17) (pc' := 7) dX8_rent_4 rfl rfl (fun h4 => ?_) (fun h4 => ?_)
  · refine P_ldc (pc' := 19) dX8_rent_17 rfl co_X8_81 ?_
    refine P_iret dX8_rent_19 ?_
    first
      | (refine CO.of ?_ hK; unfold oRent; rw [if_pos h4])
      | (refine CO.of ?_ hK; unfold oRent; rw [if_neg h4, if_pos h14])
  · refine P_iload2 (pc' := 8) dX8_rent_7 rfl ?_
    refine P_iconst (pc' := 9) dX8_rent_8 rfl (v := 0) rfl ?_
    refine P_bipush (pc' := 11) dX8_rent_9 rfl (v := 9) rfl ?_
    refine P_callS3 (pc' := 14) dX8_rent_11 rfl lk_X8_77 (c_X8_wi (d := 0) v 0 9) (by omega) (Nat.le_of_ble_eq_true rfl) (fun r S' I' hq => ?_)
    obtain ⟨rfl, rfl, rfl⟩ := hq
    refine P_if_ne (tgt := 20) (pc' := 17) dX8_rent_14 rfl rfl (fun h14 => ?_) (fun h14 => ?_)
    · obtain ⟨j, hj, rfl⟩ := wi_b (m := 7) (by decide) h4
      obtain ⟨y, hy, rfl⟩ := wi_b (m := 9) (by decide) h14
      have ej : (nI j).toNatClampNeg = j := nI_clamp (by omega)
      refine P_aload0 (pc' := 21) dX8_rent_20 rfl ?_
      refine P_getr (pc' := 24) dX8_rent_21 rfl fl_X8_10 rfl (l_0 hsh) (t_0 hsh) (q_0_0 hsh) ?_
      refine P_getr (pc' := 27) dX8_rent_24 rfl fl_X8_139 rfl (l_1 hsh) (t_1 hsh) (q_1_0 hsh) ?_
      refine P_iload1 (pc' := 28) dX8_rent_27 rfl ?_
      refine P_iald (pc' := 29) dX8_rent_28 rfl (l_2 hsh) (t_2 hsh) (j := j) rfl (by omega) (by decide) ?_
      refine P_as (hK.rt (by omega)) ?_
      refine P_istore3 (pc' := 30) dX8_rent_29 rfl (by decide) rfl ?_
      refine P_aload0 (pc' := 31) dX8_rent_30 rfl ?_
      refine P_getr (pc' := 34) dX8_rent_31 rfl fl_X8_10 rfl (l_0 hsh) (t_0 hsh) (q_0_0 hsh) ?_
      refine P_getr (pc' := 37) dX8_rent_34 rfl fl_X8_139 rfl (l_1 hsh) (t_1 hsh) (q_1_0 hsh) ?_
      refine P_iload1 (pc' := 38) dX8_rent_37 rfl ?_
      refine P_iload2 (pc' := 39) dX8_rent_38 rfl ?_
      refine P_iast (pc' := 40) dX8_rent_39 rfl (l_2 hsh) (t_2 hsh) (j := j) rfl (by omega) (by decide) ?_
      refine P_iload3 (pc' := 41) dX8_rent_40 rfl ?_
      refine P_iret dX8_rent_41 ?_
      refine CO.u (A := upd (aR T) (8 + j) (nI y)) ?_ hK (by decide) (by decide) ?_ (hK.1.1.up (fun m _ hm => hm.wo (by omega) (by omega) (by omega) (Or.inl (by omega))) (by omega) (fun b => by omega) (fun c _ z => ⟨y, hy, rfl⟩)) (upd_n (by omega))
      · unfold oRent
        rw [if_neg h4, if_neg h14, ej]
      · rw [← hA]
        exact aC_rent (o := 1) (by omega) (nI y)
    · refine P_ldc (pc' := 19) dX8_rent_17 rfl co_X8_81 ?_
      refine P_iret dX8_rent_19 ?_
      first
        | (refine CO.of ?_ hK; unfold oRent; rw [if_pos h4])
        | (refine CO.of ?_ hK; unfold oRent; rw [if_neg h4, if_pos h14])
def oSeed (A : Nat → Int32) (v : Int32) : Int32 × (Nat → Int32) := (A 0, upd A 0 v)
theorem x_seed {G : GX} {S : Shp} {I T : Mem} {d tn bn : Nat} {tx : Nat → Tx} (hK : K S I T tn bn tx) (v : Int32) (hd : 12 ≤ d) : PM G yX8_seed cX8_seed 3 (some .int) d 0 0 [.ref 0, .int v] S I (CO I (nw T (oSeed (aR T) v).2) tn bn tx (oSeed (aR T) v).1) := by
  obtain ⟨n, hn, hw, hA, hz, ht⟩ := hK.n
  have hsh := hK.2.1
  refine PM.of (ls := [some (.ref 0), some (.int v), none]) (by decide) rfl (Nat.le_of_ble_eq_true rfl) rfl ?_
  show PW G RX8 "seed" _ _ _ _ _ _ _ _ _ _ _ _
  refine P_aload0 (pc' := 1) dX8_seed_0 rfl ?_
  refine P_getr (pc' := 4) dX8_seed_1 rfl fl_X8_10 rfl (l_0 hsh) (t_0 hsh) (q_0_0 hsh) ?_
  refine P_geti (pc' := 7) dX8_seed_4 rfl fl_X8_160 rfl (l_1 hsh) (t_1 hsh) ?_
  refine P_as hK.sc.1 ?_
  refine P_istore2 (pc' := 8) dX8_seed_7 rfl (by decide) rfl ?_
  refine P_aload0 (pc' := 9) dX8_seed_8 rfl ?_
  refine P_getr (pc' := 12) dX8_seed_9 rfl fl_X8_10 rfl (l_0 hsh) (t_0 hsh) (q_0_0 hsh) ?_
  refine P_iload1 (pc' := 13) dX8_seed_12 rfl ?_
  refine P_puti (pc' := 16) dX8_seed_13 rfl fl_X8_160 rfl (l_1 hsh) (t_1 hsh) ?_
  refine P_iload2 (pc' := 17) dX8_seed_16 rfl ?_
  refine P_iret dX8_seed_17 ?_
  refine CO.u (A := upd (aR T) 0 v) rfl hK (by decide) (by decide) ?_ (hK.1.1.up (fun m _ hm => hm.z _) (by omega) (fun b => by omega) (fun c _ z => by omega)) (upd_n (by omega))
  rw [← hA]
  exact aC_sc (o := 1) (j := 0) (by decide) v
def oRule (A : Nat → Int32) (y v : Int32) : Int32 × (Nat → Int32) := if y = 0 then (if wi v 0 100 = 0 then (-1000000001, A) else (A 3, upd A 3 v)) else if y = 1 then (if wi v 0 1 = 0 then (-1000000001, A) else (A 4, upd A 4 v)) else if y = 2 then (if wi v 0 8 = 0 then (-1000000001, A) else (A 5, upd A 5 v)) else (-1000000001, A)
theorem x_rule {G : GX} {S : Shp} {I T : Mem} {d tn bn : Nat} {tx : Nat → Tx} (hK : K S I T tn bn tx) (y v : Int32) (hd : 12 ≤ d) : PM G yX8_rule cX8_rule 4 (some .int) d 0 0 [.ref 0, .int y, .int v] S I (CO I (nw T (oRule (aR T) y v).2) tn bn tx (oRule (aR T) y v).1) := by
  obtain ⟨n, hn, hw, hA, hz, ht⟩ := hK.n
  have hsh := hK.2.1
  have n01 : ¬ (0 : Int32) = 1 := by decide
  have n02 : ¬ (0 : Int32) = 2 := by decide
  have n12 : ¬ (1 : Int32) = 2 := by decide
  refine PM.of (ls := [some (.ref 0), some (.int y), some (.int v), none]) (by decide) rfl (Nat.le_of_ble_eq_true rfl) rfl ?_
  show PW G RX8 "rule" _ _ _ _ _ _ _ _ _ _ _ _
  by_cases y0 : y = 0
  · subst y0
    refine P_iload1 (pc' := 1) dX8_rule_0 rfl ?_
    refine P_if_ne (tgt := 32) (pc' := 4) dX8_rule_1 rfl rfl (fun h1 => ?_) (fun h1 => ?_)
    · exact absurd rfl h1
    · refine P_iload2 (pc' := 5) dX8_rule_4 rfl ?_
      refine P_iconst (pc' := 6) dX8_rule_5 rfl (v := 0) rfl ?_
      refine P_bipush (pc' := 8) dX8_rule_6 rfl (v := 100) rfl ?_
      refine P_callS3 (pc' := 11) dX8_rule_8 rfl lk_X8_77 (c_X8_wi (d := 0) v 0 100) (by omega) (Nat.le_of_ble_eq_true rfl) (fun r S' I' hq => ?_)
      obtain ⟨rfl, rfl, rfl⟩ := hq
      refine P_if_eq (tgt := 32) (pc' := 14) dX8_rule_11 rfl rfl (fun h11 => ?_) (fun h11 => ?_)
      · refine P_iload1 (pc' := 33) dX8_rule_32 rfl ?_
        refine P_iconst (pc' := 34) dX8_rule_33 rfl (v := 1) rfl ?_
        refine P_icmp_ne (tgt := 81) (pc' := 37) dX8_rule_34 rfl rfl (fun h34 => ?_) (fun h34 => ?_)
        · refine P_iload1 (pc' := 82) dX8_rule_81 rfl ?_
          refine P_iconst (pc' := 83) dX8_rule_82 rfl (v := 2) rfl ?_
          refine P_icmp_ne (tgt := 114) (pc' := 86) dX8_rule_83 rfl rfl (fun h83 => ?_) (fun h83 => ?_)
          · refine P_ldc (pc' := 116) dX8_rule_114 rfl co_X8_81 ?_
            refine P_iret dX8_rule_116 ?_
            refine CO.of ?_ hK
            unfold oRule
            rw [if_pos rfl, if_pos h11]
          · exact absurd h83 n02
        · exact absurd h34 n01
      · refine P_aload0 (pc' := 15) dX8_rule_14 rfl ?_
        refine P_getr (pc' := 18) dX8_rule_15 rfl fl_X8_10 rfl (l_0 hsh) (t_0 hsh) (q_0_0 hsh) ?_
        refine P_geti (pc' := 21) dX8_rule_18 rfl fl_X8_142 rfl (l_1 hsh) (t_1 hsh) ?_
        refine P_as hK.sc.2.2.2.1 ?_
        refine P_istore3 (pc' := 22) dX8_rule_21 rfl (by decide) rfl ?_
        refine P_aload0 (pc' := 23) dX8_rule_22 rfl ?_
        refine P_getr (pc' := 26) dX8_rule_23 rfl fl_X8_10 rfl (l_0 hsh) (t_0 hsh) (q_0_0 hsh) ?_
        refine P_iload2 (pc' := 27) dX8_rule_26 rfl ?_
        refine P_puti (pc' := 30) dX8_rule_27 rfl fl_X8_142 rfl (l_1 hsh) (t_1 hsh) ?_
        refine P_iload3 (pc' := 31) dX8_rule_30 rfl ?_
        refine P_iret dX8_rule_31 ?_
        refine CO.u (A := upd (aR T) 3 v) ?_ hK (by decide) (by decide) ?_ (hK.1.1.up (fun m _ hm => hm.wo (by omega) (by omega) (by omega) (Or.inl (by omega))) (by omega) (fun b => by omega) (fun c _ z => by omega)) (upd_n (by omega))
        · unfold oRule
          rw [if_pos rfl, if_neg h11]
        · rw [← hA]
          exact aC_sc (o := 1) (j := 3) (by decide) v
  · by_cases y1 : y = 1
    · subst y1
      have w4 := hw.2.2.1
      refine P_iload1 (pc' := 1) dX8_rule_0 rfl ?_
      refine P_if_ne (tgt := 32) (pc' := 4) dX8_rule_1 rfl rfl (fun h1 => ?_) (fun h1 => ?_)
      · refine P_iload1 (pc' := 33) dX8_rule_32 rfl ?_
        refine P_iconst (pc' := 34) dX8_rule_33 rfl (v := 1) rfl ?_
        refine P_icmp_ne (tgt := 81) (pc' := 37) dX8_rule_34 rfl rfl (fun h34 => ?_) (fun h34 => ?_)
        · exact absurd rfl h34
        · refine P_iload2 (pc' := 38) dX8_rule_37 rfl ?_
          refine P_iconst (pc' := 39) dX8_rule_38 rfl (v := 0) rfl ?_
          refine P_iconst (pc' := 40) dX8_rule_39 rfl (v := 1) rfl ?_
          refine P_callS3 (pc' := 43) dX8_rule_40 rfl lk_X8_77 (c_X8_wi (d := 0) v 0 1) (by omega) (Nat.le_of_ble_eq_true rfl) (fun r S' I' hq => ?_)
          obtain ⟨rfl, rfl, rfl⟩ := hq
          refine P_if_eq (tgt := 81) (pc' := 46) dX8_rule_43 rfl rfl (fun h43 => ?_) (fun h43 => ?_)
          · refine P_iload1 (pc' := 82) dX8_rule_81 rfl ?_
            refine P_iconst (pc' := 83) dX8_rule_82 rfl (v := 2) rfl ?_
            refine P_icmp_ne (tgt := 114) (pc' := 86) dX8_rule_83 rfl rfl (fun h83 => ?_) (fun h83 => ?_)
            · refine P_ldc (pc' := 116) dX8_rule_114 rfl co_X8_81 ?_
              refine P_iret dX8_rule_116 ?_
              refine CO.of ?_ hK
              unfold oRule
              rw [if_neg (by decide), if_pos rfl, if_pos h43]
            · exact absurd h83 n12
          · refine P_aload0 (pc' := 47) dX8_rule_46 rfl ?_
            refine P_getr (pc' := 50) dX8_rule_47 rfl fl_X8_10 rfl (l_0 hsh) (t_0 hsh) (q_0_0 hsh) ?_
            refine P_geti (pc' := 53) dX8_rule_50 rfl fl_X8_145 rfl (l_1 hsh) (t_1 hsh) ?_
            refine P_as hK.sc.2.2.2.2.1 ?_
            refine P_if_eq (tgt := 60) (pc' := 56) dX8_rule_53 rfl rfl (fun h53 => ?_) (fun h53 => ?_)
            · refine P_iconst (pc' := 61) dX8_rule_60 rfl (v := 0) rfl ?_
              refine P_istore3 (pc' := 62) dX8_rule_61 rfl (by decide) rfl ?_
              refine P_aload0 (pc' := 63) dX8_rule_62 rfl ?_
              refine P_getr (pc' := 66) dX8_rule_63 rfl fl_X8_10 rfl (l_0 hsh) (t_0 hsh) (q_0_0 hsh) ?_
              refine P_iload2 (pc' := 67) dX8_rule_66 rfl ?_
              refine P_iconst (pc' := 68) dX8_rule_67 rfl (v := 1) rfl ?_
              refine P_icmp_ne (tgt := 75) (pc' := 71) dX8_rule_68 rfl rfl (fun h68 => ?_) (fun h68 => ?_)
              · refine P_iconst (pc' := 76) dX8_rule_75 rfl (v := 0) rfl ?_
                refine P_putz (pc' := 79) dX8_rule_76 rfl fl_X8_145 rfl (l_1 hsh) (t_1 hsh) (by first | exact Or.inl rfl | exact Or.inr rfl) ?_
                refine P_iload3 (pc' := 80) dX8_rule_79 rfl ?_
                refine P_iret dX8_rule_80 ?_
                obtain ⟨q, hq, rfl⟩ := wi_b (m := 1) (by decide) h43
                have hq2 : q = 0 ∨ q = 1 := by omega
                have e0 : nI 0 = 0 := rfl
                have e1 : nI 1 = 1 := rfl
                have n10 : ¬ nI 1 = 0 := by decide
                have n01' : ¬ nI 0 = 1 := by decide
                rcases hq2 with rfl | rfl
                · try exact absurd h68 n01'
                  all_goals refine CO.u (A := upd (aR T) 4 0) ?_ hK (by decide) (by decide) ?_ (hK.1.1.up (fun m _ hm => hm.w4 (Or.inl rfl)) (by omega) (fun b => by omega) (fun c _ z => by omega)) (upd_n (by omega))
                  all_goals first
                    | (unfold oRule; rw [if_neg (by decide), if_pos rfl, if_neg h43, h53, e0])
                    | (unfold oRule; rw [if_neg (by decide), if_pos rfl, if_neg h43, w4.resolve_left h53, e0])
                    | (rw [← hA]; exact aC_sc (o := 1) (j := 4) (by decide) 0)
                · try exact absurd rfl h68
                  all_goals refine CO.u (A := upd (aR T) 4 1) ?_ hK (by decide) (by decide) ?_ (hK.1.1.up (fun m _ hm => hm.w4 (Or.inr rfl)) (by omega) (fun b => by omega) (fun c _ z => by omega)) (upd_n (by omega))
                  all_goals first
                    | (unfold oRule; rw [if_neg (by decide), if_pos rfl, if_neg h43, h53, e1])
                    | (unfold oRule; rw [if_neg (by decide), if_pos rfl, if_neg h43, w4.resolve_left h53, e1])
                    | (rw [← hA]; exact aC_sc (o := 1) (j := 4) (by decide) 1)
              · refine P_iconst (pc' := 72) dX8_rule_71 rfl (v := 1) rfl ?_
                refine P_goto (tgt := 76) dX8_rule_72 rfl ?_
                refine P_putz (pc' := 79) dX8_rule_76 rfl fl_X8_145 rfl (l_1 hsh) (t_1 hsh) (by first | exact Or.inl rfl | exact Or.inr rfl) ?_
                refine P_iload3 (pc' := 80) dX8_rule_79 rfl ?_
                refine P_iret dX8_rule_80 ?_
                obtain ⟨q, hq, rfl⟩ := wi_b (m := 1) (by decide) h43
                have hq2 : q = 0 ∨ q = 1 := by omega
                have e0 : nI 0 = 0 := rfl
                have e1 : nI 1 = 1 := rfl
                have n10 : ¬ nI 1 = 0 := by decide
                have n01' : ¬ nI 0 = 1 := by decide
                rcases hq2 with rfl | rfl
                · try exact absurd h68 n01'
                  all_goals refine CO.u (A := upd (aR T) 4 0) ?_ hK (by decide) (by decide) ?_ (hK.1.1.up (fun m _ hm => hm.w4 (Or.inl rfl)) (by omega) (fun b => by omega) (fun c _ z => by omega)) (upd_n (by omega))
                  all_goals first
                    | (unfold oRule; rw [if_neg (by decide), if_pos rfl, if_neg h43, h53, e0])
                    | (unfold oRule; rw [if_neg (by decide), if_pos rfl, if_neg h43, w4.resolve_left h53, e0])
                    | (rw [← hA]; exact aC_sc (o := 1) (j := 4) (by decide) 0)
                · try exact absurd rfl h68
                  all_goals refine CO.u (A := upd (aR T) 4 1) ?_ hK (by decide) (by decide) ?_ (hK.1.1.up (fun m _ hm => hm.w4 (Or.inr rfl)) (by omega) (fun b => by omega) (fun c _ z => by omega)) (upd_n (by omega))
                  all_goals first
                    | (unfold oRule; rw [if_neg (by decide), if_pos rfl, if_neg h43, h53, e1])
                    | (unfold oRule; rw [if_neg (by decide), if_pos rfl, if_neg h43, w4.resolve_left h53, e1])
                    | (rw [← hA]; exact aC_sc (o := 1) (j := 4) (by decide) 1)
            · refine P_iconst (pc' := 57) dX8_rule_56 rfl (v := 1) rfl ?_
              refine P_goto (tgt := 61) dX8_rule_57 rfl ?_
              refine P_istore3 (pc' := 62) dX8_rule_61 rfl (by decide) rfl ?_
              refine P_aload0 (pc' := 63) dX8_rule_62 rfl ?_
              refine P_getr (pc' := 66) dX8_rule_63 rfl fl_X8_10 rfl (l_0 hsh) (t_0 hsh) (q_0_0 hsh) ?_
              refine P_iload2 (pc' := 67) dX8_rule_66 rfl ?_
              refine P_iconst (pc' := 68) dX8_rule_67 rfl (v := 1) rfl ?_
              refine P_icmp_ne (tgt := 75) (pc' := 71) dX8_rule_68 rfl rfl (fun h68 => ?_) (fun h68 => ?_)
              · refine P_iconst (pc' := 76) dX8_rule_75 rfl (v := 0) rfl ?_
                refine P_putz (pc' := 79) dX8_rule_76 rfl fl_X8_145 rfl (l_1 hsh) (t_1 hsh) (by first | exact Or.inl rfl | exact Or.inr rfl) ?_
                refine P_iload3 (pc' := 80) dX8_rule_79 rfl ?_
                refine P_iret dX8_rule_80 ?_
                obtain ⟨q, hq, rfl⟩ := wi_b (m := 1) (by decide) h43
                have hq2 : q = 0 ∨ q = 1 := by omega
                have e0 : nI 0 = 0 := rfl
                have e1 : nI 1 = 1 := rfl
                have n10 : ¬ nI 1 = 0 := by decide
                have n01' : ¬ nI 0 = 1 := by decide
                rcases hq2 with rfl | rfl
                · try exact absurd h68 n01'
                  all_goals refine CO.u (A := upd (aR T) 4 0) ?_ hK (by decide) (by decide) ?_ (hK.1.1.up (fun m _ hm => hm.w4 (Or.inl rfl)) (by omega) (fun b => by omega) (fun c _ z => by omega)) (upd_n (by omega))
                  all_goals first
                    | (unfold oRule; rw [if_neg (by decide), if_pos rfl, if_neg h43, h53, e0])
                    | (unfold oRule; rw [if_neg (by decide), if_pos rfl, if_neg h43, w4.resolve_left h53, e0])
                    | (rw [← hA]; exact aC_sc (o := 1) (j := 4) (by decide) 0)
                · try exact absurd rfl h68
                  all_goals refine CO.u (A := upd (aR T) 4 1) ?_ hK (by decide) (by decide) ?_ (hK.1.1.up (fun m _ hm => hm.w4 (Or.inr rfl)) (by omega) (fun b => by omega) (fun c _ z => by omega)) (upd_n (by omega))
                  all_goals first
                    | (unfold oRule; rw [if_neg (by decide), if_pos rfl, if_neg h43, h53, e1])
                    | (unfold oRule; rw [if_neg (by decide), if_pos rfl, if_neg h43, w4.resolve_left h53, e1])
                    | (rw [← hA]; exact aC_sc (o := 1) (j := 4) (by decide) 1)
              · refine P_iconst (pc' := 72) dX8_rule_71 rfl (v := 1) rfl ?_
                refine P_goto (tgt := 76) dX8_rule_72 rfl ?_
                refine P_putz (pc' := 79) dX8_rule_76 rfl fl_X8_145 rfl (l_1 hsh) (t_1 hsh) (by first | exact Or.inl rfl | exact Or.inr rfl) ?_
                refine P_iload3 (pc' := 80) dX8_rule_79 rfl ?_
                refine P_iret dX8_rule_80 ?_
                obtain ⟨q, hq, rfl⟩ := wi_b (m := 1) (by decide) h43
                have hq2 : q = 0 ∨ q = 1 := by omega
                have e0 : nI 0 = 0 := rfl
                have e1 : nI 1 = 1 := rfl
                have n10 : ¬ nI 1 = 0 := by decide
                have n01' : ¬ nI 0 = 1 := by decide
                rcases hq2 with rfl | rfl
                · try exact absurd h68 n01'
                  all_goals refine CO.u (A := upd (aR T) 4 0) ?_ hK (by decide) (by decide) ?_ (hK.1.1.up (fun m _ hm => hm.w4 (Or.inl rfl)) (by omega) (fun b => by omega) (fun c _ z => by omega)) (upd_n (by omega))
                  all_goals first
                    | (unfold oRule; rw [if_neg (by decide), if_pos rfl, if_neg h43, h53, e0])
                    | (unfold oRule; rw [if_neg (by decide), if_pos rfl, if_neg h43, w4.resolve_left h53, e0])
                    | (rw [← hA]; exact aC_sc (o := 1) (j := 4) (by decide) 0)
                · try exact absurd rfl h68
                  all_goals refine CO.u (A := upd (aR T) 4 1) ?_ hK (by decide) (by decide) ?_ (hK.1.1.up (fun m _ hm => hm.w4 (Or.inr rfl)) (by omega) (fun b => by omega) (fun c _ z => by omega)) (upd_n (by omega))
                  all_goals first
                    | (unfold oRule; rw [if_neg (by decide), if_pos rfl, if_neg h43, h53, e1])
                    | (unfold oRule; rw [if_neg (by decide), if_pos rfl, if_neg h43, w4.resolve_left h53, e1])
                    | (rw [← hA]; exact aC_sc (o := 1) (j := 4) (by decide) 1)
      · exact absurd h1 (by decide)
    · skip
      refine P_iload1 (pc' := 1) dX8_rule_0 rfl ?_
      refine P_if_ne (tgt := 32) (pc' := 4) dX8_rule_1 rfl rfl (fun h1 => ?_) (fun h1 => ?_)
      · refine P_iload1 (pc' := 33) dX8_rule_32 rfl ?_
        refine P_iconst (pc' := 34) dX8_rule_33 rfl (v := 1) rfl ?_
        refine P_icmp_ne (tgt := 81) (pc' := 37) dX8_rule_34 rfl rfl (fun h34 => ?_) (fun h34 => ?_)
        · refine P_iload1 (pc' := 82) dX8_rule_81 rfl ?_
          refine P_iconst (pc' := 83) dX8_rule_82 rfl (v := 2) rfl ?_
          refine P_icmp_ne (tgt := 114) (pc' := 86) dX8_rule_83 rfl rfl (fun h83 => ?_) (fun h83 => ?_)
          · refine P_ldc (pc' := 116) dX8_rule_114 rfl co_X8_81 ?_
            refine P_iret dX8_rule_116 ?_
            refine CO.of ?_ hK
            unfold oRule
            rw [if_neg y0, if_neg y1]
            first
              | rw [if_neg h83]
              | rw [if_pos h83, if_pos h93]
          · refine P_iload2 (pc' := 87) dX8_rule_86 rfl ?_
            refine P_iconst (pc' := 88) dX8_rule_87 rfl (v := 0) rfl ?_
            refine P_bipush (pc' := 90) dX8_rule_88 rfl (v := 8) rfl ?_
            refine P_callS3 (pc' := 93) dX8_rule_90 rfl lk_X8_77 (c_X8_wi (d := 0) v 0 8) (by omega) (Nat.le_of_ble_eq_true rfl) (fun r S' I' hq => ?_)
            obtain ⟨rfl, rfl, rfl⟩ := hq
            refine P_if_eq (tgt := 114) (pc' := 96) dX8_rule_93 rfl rfl (fun h93 => ?_) (fun h93 => ?_)
            · refine P_ldc (pc' := 116) dX8_rule_114 rfl co_X8_81 ?_
              refine P_iret dX8_rule_116 ?_
              refine CO.of ?_ hK
              unfold oRule
              rw [if_neg y0, if_neg y1]
              first
                | rw [if_neg h83]
                | rw [if_pos h83, if_pos h93]
            · refine P_aload0 (pc' := 97) dX8_rule_96 rfl ?_
              refine P_getr (pc' := 100) dX8_rule_97 rfl fl_X8_10 rfl (l_0 hsh) (t_0 hsh) (q_0_0 hsh) ?_
              refine P_geti (pc' := 103) dX8_rule_100 rfl fl_X8_148 rfl (l_1 hsh) (t_1 hsh) ?_
              refine P_as hK.sc.2.2.2.2.2.1 ?_
              refine P_istore3 (pc' := 104) dX8_rule_103 rfl (by decide) rfl ?_
              obtain ⟨f, hf, rfl⟩ := wi_b (m := 8) (by decide) h93
              refine P_aload0 (pc' := 105) dX8_rule_104 rfl ?_
              refine P_getr (pc' := 108) dX8_rule_105 rfl fl_X8_10 rfl (l_0 hsh) (t_0 hsh) (q_0_0 hsh) ?_
              refine P_iload2 (pc' := 109) dX8_rule_108 rfl ?_
              refine P_puti (pc' := 112) dX8_rule_109 rfl fl_X8_148 rfl (l_1 hsh) (t_1 hsh) ?_
              refine P_iload3 (pc' := 113) dX8_rule_112 rfl ?_
              refine P_iret dX8_rule_113 ?_
              refine CO.u (A := upd (aR T) 5 (nI f)) ?_ hK (by decide) (by decide) ?_ (hK.1.1.up (fun m _ hm => hm.w5 hf) (by omega) (fun b => by omega) (fun c _ z => by omega)) (upd_n (by omega))
              · unfold oRule
                rw [if_neg y0, if_neg y1, if_pos h83, if_neg h93]
              · rw [← hA]
                exact aC_sc (o := 1) (j := 5) (by decide) (nI f)
        · exact absurd h34 y1
      · exact absurd h1 y0

