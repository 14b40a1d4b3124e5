theorem c_X9_in {G : GX} {S : Shp} {I : Mem} {d : Nat} (v lo hi : Int32) : PM G yX9_in cX9_in 3 (some .boolean) d 0 0 [.int v, .int lo, .int hi] S I (Rm S I (wi v lo hi)) := by
  refine PM.of (ls := [some (.int v), some (.int lo), some (.int hi)]) (by decide) rfl (Nat.le_of_ble_eq_true rfl) rfl ?_
  show PW G RX9 "in" _ _ _ _ _ _ _ _ _ _ _ _
  unfold wi
  refine P_iload0 (pc' := 1) dX9_in_0 rfl ?_
  refine P_iload1 (pc' := 2) dX9_in_1 rfl ?_
  refine P_icmp_lt (tgt := 14) (pc' := 5) dX9_in_2 rfl rfl (fun h2 => ?_) (fun h2 => ?_)
  · refine P_iconst (pc' := 15) dX9_in_14 rfl (v := 0) rfl ?_
    refine P_zret dX9_in_15 (by first | exact Or.inl rfl | exact Or.inr rfl) ?_
    first | exact ⟨by rw [if_neg (fun q => absurd q.1 (Int32.not_le.mpr h2))], rfl, rfl⟩ | exact ⟨by rw [if_neg (fun q => absurd q.2 (Int32.not_le.mpr h7))], rfl, rfl⟩ | exact ⟨by rw [if_pos ⟨Int32.not_lt.mp h2, Int32.not_lt.mp h7⟩], rfl, rfl⟩
  · refine P_iload0 (pc' := 6) dX9_in_5 rfl ?_
    refine P_iload2 (pc' := 7) dX9_in_6 rfl ?_
    refine P_icmp_gt (tgt := 14) (pc' := 10) dX9_in_7 rfl rfl (fun h7 => ?_) (fun h7 => ?_)
    · refine P_iconst (pc' := 15) dX9_in_14 rfl (v := 0) rfl ?_
      refine P_zret dX9_in_15 (by first | exact Or.inl rfl | exact Or.inr rfl) ?_
      first | exact ⟨by rw [if_neg (fun q => absurd q.1 (Int32.not_le.mpr h2))], rfl, rfl⟩ | exact ⟨by rw [if_neg (fun q => absurd q.2 (Int32.not_le.mpr h7))], rfl, rfl⟩ | exact ⟨by rw [if_pos ⟨Int32.not_lt.mp h2, Int32.not_lt.mp h7⟩], rfl, rfl⟩
    · refine P_iconst (pc' := 11) dX9_in_10 rfl (v := 1) rfl ?_
      refine P_goto (tgt := 15) dX9_in_11 rfl ?_
      refine P_zret dX9_in_15 (by first | exact Or.inl rfl | exact Or.inr rfl) ?_
      first | exact ⟨by rw [if_neg (fun q => absurd q.1 (Int32.not_le.mpr h2))], rfl, rfl⟩ | exact ⟨by rw [if_neg (fun q => absurd q.2 (Int32.not_le.mpr h7))], rfl, rfl⟩ | exact ⟨by rw [if_pos ⟨Int32.not_lt.mp h2, Int32.not_lt.mp h7⟩], rfl, rfl⟩
theorem c_X9_within {G : GX} {S : Shp} {I : Mem} {d : Nat} (v lo hi : Int32) : PM G yX9_within cX9_within 3 (some .int) d 0 0 [.int v, .int lo, .int hi] S I (Rm S I (hl v lo hi)) := by
  refine PM.of (ls := [some (.int v), some (.int lo), some (.int hi)]) (by decide) rfl (Nat.le_of_ble_eq_true rfl) rfl ?_
  show PW G RX9 "within" _ _ _ _ _ _ _ _ _ _ _ _
  refine P_iload0 (pc' := 1) dX9_within_0 rfl ?_
  refine P_iload1 (pc' := 2) dX9_within_1 rfl ?_
  refine P_icmp_ge (tgt := 9) (pc' := 5) dX9_within_2 rfl rfl (fun h2 => ?_) (fun h2 => ?_)
  · refine P_iload0 (pc' := 10) dX9_within_9 rfl ?_
    refine P_iload2 (pc' := 11) dX9_within_10 rfl ?_
    refine P_icmp_le (tgt := 18) (pc' := 14) dX9_within_11 rfl rfl (fun h11 => ?_) (fun h11 => ?_)
    · refine P_iload0 (pc' := 19) dX9_within_18 rfl ?_
      refine P_iret dX9_within_19 ?_
      exact ⟨by unfold hl; first | rw [if_pos (Int32.not_le.mp h2)] | rw [if_neg (Int32.not_lt.mpr h2), if_pos (Int32.not_le.mp h11)] | rw [if_neg (Int32.not_lt.mpr h2), if_neg (Int32.not_lt.mpr h11)], rfl, rfl⟩
    · refine P_iload2 (pc' := 15) dX9_within_14 rfl ?_
      refine P_goto (tgt := 19) dX9_within_15 rfl ?_
      refine P_iret dX9_within_19 ?_
      exact ⟨by unfold hl; first | rw [if_pos (Int32.not_le.mp h2)] | rw [if_neg (Int32.not_lt.mpr h2), if_pos (Int32.not_le.mp h11)] | rw [if_neg (Int32.not_lt.mpr h2), if_neg (Int32.not_lt.mpr h11)], rfl, rfl⟩
  · refine P_iload1 (pc' := 6) dX9_within_5 rfl ?_
    refine P_goto (tgt := 19) dX9_within_6 rfl ?_
    refine P_iret dX9_within_19 ?_
    exact ⟨by unfold hl; first | rw [if_pos (Int32.not_le.mp h2)] | rw [if_neg (Int32.not_lt.mpr h2), if_pos (Int32.not_le.mp h11)] | rw [if_neg (Int32.not_lt.mpr h2), if_neg (Int32.not_lt.mpr h11)], rfl, rfl⟩
theorem c_X9_isCorner {G : GX} {S : Shp} {I : Mem} {d : Nat} (v : Int32) (hd : 1 ≤ d) : PM G yX9_isCorner cX9_isCorner 1 (some .boolean) d 0 0 [.int v] S I (Rm S I (wi v 0 7)) := by
  refine PM.of (ls := [some (.int v)]) (by decide) rfl (Nat.le_of_ble_eq_true rfl) rfl ?_
  show PW G RX9 "isCorner" _ _ _ _ _ _ _ _ _ _ _ _
  refine P_iload0 (pc' := 1) dX9_isCorner_0 rfl ?_
  refine P_iconst (pc' := 2) dX9_isCorner_1 rfl (v := 0) rfl ?_
  refine P_bipush (pc' := 4) dX9_isCorner_2 rfl (v := 7) rfl ?_
  refine P_callS3 (pc' := 7) dX9_isCorner_4 rfl lk_X9_75 (c_X9_in (d := 0) v 0 7) (by omega) (Nat.le_of_ble_eq_true rfl) (fun r S' I' hq => ?_)
  obtain ⟨rfl, rfl, rfl⟩ := hq
  refine P_zret dX9_isCorner_7 (wi_01 v 0 7) ?_
  exact ⟨rfl, rfl, rfl⟩
theorem c_X9_isSheet {G : GX} {S : Shp} {I : Mem} {d : Nat} (v : Int32) (hd : 1 ≤ d) : PM G yX9_isSheet cX9_isSheet 1 (some .boolean) d 0 0 [.int v] S I (Rm S I (wi v 0 3)) := by
  refine PM.of (ls := [some (.int v)]) (by decide) rfl (Nat.le_of_ble_eq_true rfl) rfl ?_
  show PW G RX9 "isSheet" _ _ _ _ _ _ _ _ _ _ _ _
  refine P_iload0 (pc' := 1) dX9_isSheet_0 rfl ?_
  refine P_iconst (pc' := 2) dX9_isSheet_1 rfl (v := 0) rfl ?_
  refine P_iconst (pc' := 3) dX9_isSheet_2 rfl (v := 3) rfl ?_
  refine P_callS3 (pc' := 6) dX9_isSheet_3 rfl lk_X9_75 (c_X9_in (d := 0) v 0 3) (by omega) (Nat.le_of_ble_eq_true rfl) (fun r S' I' hq => ?_)
  obtain ⟨rfl, rfl, rfl⟩ := hq
  refine P_zret dX9_isSheet_6 (wi_01 v 0 3) ?_
  exact ⟨rfl, rfl, rfl⟩
theorem c_X9_isSlot {G : GX} {S : Shp} {I : Mem} {d : Nat} (v : Int32) (hd : 1 ≤ d) : PM G yX9_isSlot cX9_isSlot 1 (some .boolean) d 0 0 [.int v] S I (Rm S I (wi v 0 4)) := by
  refine PM.of (ls := [some (.int v)]) (by decide) rfl (Nat.le_of_ble_eq_true rfl) rfl ?_
  show PW G RX9 "isSlot" _ _ _ _ _ _ _ _ _ _ _ _
  refine P_iload0 (pc' := 1) dX9_isSlot_0 rfl ?_
  refine P_iconst (pc' := 2) dX9_isSlot_1 rfl (v := 0) rfl ?_
  refine P_iconst (pc' := 3) dX9_isSlot_2 rfl (v := 4) rfl ?_
  refine P_callS3 (pc' := 6) dX9_isSlot_3 rfl lk_X9_75 (c_X9_in (d := 0) v 0 4) (by omega) (Nat.le_of_ble_eq_true rfl) (fun r S' I' hq => ?_)
  obtain ⟨rfl, rfl, rfl⟩ := hq
  refine P_zret dX9_isSlot_6 (wi_01 v 0 4) ?_
  exact ⟨rfl, rfl, rfl⟩
theorem c_X9_isBeggar {G : GX} {S : Shp} {I : Mem} {d n : Nat} (v : Int32) (hsh : SHP S) (hz : I 56 1 = nI n) (hd : 1 ≤ d) : PM G yX9_isBeggar cX9_isBeggar 2 (some .boolean) d 0 0 [.ref 55, .int v] S I (Rm S I (wi v 0 (nI n - 1))) := by
  refine PM.of (ls := [some (.ref 55), some (.int v)]) (by decide) rfl (Nat.le_of_ble_eq_true rfl) rfl ?_
  show PW G RX9 "isBeggar" _ _ _ _ _ _ _ _ _ _ _ _
  refine P_iload1 (pc' := 1) dX9_isBeggar_0 rfl ?_
  refine P_iconst (pc' := 2) dX9_isBeggar_1 rfl (v := 0) rfl ?_
  refine P_aload0 (pc' := 3) dX9_isBeggar_2 rfl ?_
  refine P_getr (pc' := 6) dX9_isBeggar_3 rfl fl_X9_9 rfl (l_55 hsh) (t_55 hsh) (q_55_0 hsh) ?_
  refine P_iconst (pc' := 7) dX9_isBeggar_6 rfl (v := 1) rfl ?_
  refine P_iald (pc' := 8) dX9_isBeggar_7 rfl (l_56 hsh) (t_56 hsh) (j := 1) rfl (by decide) (by decide) ?_
  refine P_as hz ?_
  refine P_iconst (pc' := 9) dX9_isBeggar_8 rfl (v := 1) rfl ?_
  refine P_isub (pc' := 10) dX9_isBeggar_9 rfl ?_
  refine P_callS3 (pc' := 13) dX9_isBeggar_10 rfl lk_X9_75 (c_X9_in (d := 0) v 0 (nI n - 1)) (by omega) (Nat.le_of_ble_eq_true rfl) (fun r S' I' hq => ?_)
  obtain ⟨rfl, rfl, rfl⟩ := hq
  refine P_zret dX9_isBeggar_13 (wi_01 v 0 (nI n - 1)) ?_
  exact ⟨rfl, rfl, rfl⟩
theorem ix5 (b k : Nat) : (16 : Int32) + 5 * nI b + nI k = nI (16 + 5 * b + k) := by
  rw [show (5 : Int32) = nI 5 from rfl, pk_mul, show (16 : Int32) = nI 16 from rfl, nI_add, nI_add]
theorem c_X9_of {G : GX} {S : Shp} {I : Mem} {d b k : Nat} (hsh : SHP S) (hb : b < 9) (hk : k < 5) : PM G yX9_of cX9_of 3 (some .int) d 0 0 [.ref 55, .int (nI b), .int (nI k)] S I (Rm S I (I 56 (16 + 5 * b + k))) := by
  refine PM.of (ls := [some (.ref 55), some (.int (nI b)), some (.int (nI k))]) (by decide) rfl (Nat.le_of_ble_eq_true rfl) rfl ?_
  show PW G RX9 "of" _ _ _ _ _ _ _ _ _ _ _ _
  refine P_aload0 (pc' := 1) dX9_of_0 rfl ?_
  refine P_getr (pc' := 4) dX9_of_1 rfl fl_X9_9 rfl (l_55 hsh) (t_55 hsh) (q_55_0 hsh) ?_
  refine P_bipush (pc' := 6) dX9_of_4 rfl (v := 16) rfl ?_
  refine P_iconst (pc' := 7) dX9_of_6 rfl (v := 5) rfl ?_
  refine P_iload1 (pc' := 8) dX9_of_7 rfl ?_
  refine P_imul (pc' := 9) dX9_of_8 rfl ?_
  refine P_iadd (pc' := 10) dX9_of_9 rfl ?_
  refine P_iload2 (pc' := 11) dX9_of_10 rfl ?_
  refine P_iadd (pc' := 12) dX9_of_11 rfl ?_
  refine P_iald (pc' := 13) dX9_of_12 rfl (l_56 hsh) (t_56 hsh) (j := 16 + 5 * b + k) (ix5 b k) (by omega) (by decide) ?_
  refine P_iret dX9_of_13 ?_
  exact ⟨rfl, rfl, rfl⟩
theorem c_X9_put {G : GX} {S : Shp} {I : Mem} {d b k : Nat} {v : Int32} (hsh : SHP S) (hb : b < 9) (hk : k < 5) : PM G yX9_put cX9_put 4 none d 0 0 [.ref 55, .int (nI b), .int (nI k), .int v] S I (Rv S (u2 I 56 (16 + 5 * b + k) v)) := by
  refine PM.of (ls := [some (.ref 55), some (.int (nI b)), some (.int (nI k)), some (.int v)]) (by decide) rfl (Nat.le_of_ble_eq_true rfl) rfl ?_
  show PW G RX9 "put" _ _ _ _ _ _ _ _ _ _ _ _
  refine P_aload0 (pc' := 1) dX9_put_0 rfl ?_
  refine P_getr (pc' := 4) dX9_put_1 rfl fl_X9_9 rfl (l_55 hsh) (t_55 hsh) (q_55_0 hsh) ?_
  refine P_bipush (pc' := 6) dX9_put_4 rfl (v := 16) rfl ?_
  refine P_iconst (pc' := 7) dX9_put_6 rfl (v := 5) rfl ?_
  refine P_iload1 (pc' := 8) dX9_put_7 rfl ?_
  refine P_imul (pc' := 9) dX9_put_8 rfl ?_
  refine P_iadd (pc' := 10) dX9_put_9 rfl ?_
  refine P_iload2 (pc' := 11) dX9_put_10 rfl ?_
  refine P_iadd (pc' := 12) dX9_put_11 rfl ?_
  refine P_iload3 (pc' := 13) dX9_put_12 rfl ?_
  refine P_iast (pc' := 14) dX9_put_13 rfl (l_56 hsh) (t_56 hsh) (j := 16 + 5 * b + k) (ix5 b k) (by omega) (by decide) ?_
  refine P_vret dX9_put_14 ?_
  exact ⟨rfl, rfl, rfl⟩
theorem c_X9_becomes {G : GX} {S : Shp} {I : Mem} {d i : Nat} {v : Int32} (hsh : SHP S) (hi : i < 1433) : PM G yX9_becomes cX9_becomes 4 (some .int) d 0 0 [.ref 55, .int (nI i), .int v] S I (Rm S (u2 I 56 i v) (I 56 i)) := by
  refine PM.of (ls := [some (.ref 55), some (.int (nI i)), some (.int v), none]) (by decide) rfl (Nat.le_of_ble_eq_true rfl) rfl ?_
  show PW G RX9 "becomes" _ _ _ _ _ _ _ _ _ _ _ _
  refine P_aload0 (pc' := 1) dX9_becomes_0 rfl ?_
  refine P_getr (pc' := 4) dX9_becomes_1 rfl fl_X9_9 rfl (l_55 hsh) (t_55 hsh) (q_55_0 hsh) ?_
  refine P_iload1 (pc' := 5) dX9_becomes_4 rfl ?_
  refine P_iald (pc' := 6) dX9_becomes_5 rfl (l_56 hsh) (t_56 hsh) (j := i) rfl hi (by decide) ?_
  refine P_istore3 (pc' := 7) dX9_becomes_6 rfl (by decide) rfl ?_
  refine P_aload0 (pc' := 8) dX9_becomes_7 rfl ?_
  refine P_getr (pc' := 11) dX9_becomes_8 rfl fl_X9_9 rfl (l_55 hsh) (t_55 hsh) (q_55_0 hsh) ?_
  refine P_iload1 (pc' := 12) dX9_becomes_11 rfl ?_
  refine P_iload2 (pc' := 13) dX9_becomes_12 rfl ?_
  refine P_iast (pc' := 14) dX9_becomes_13 rfl (l_56 hsh) (t_56 hsh) (j := i) rfl hi (by decide) ?_
  refine P_iload3 (pc' := 15) dX9_becomes_14 rfl ?_
  refine P_iret dX9_becomes_15 ?_
  exact ⟨rfl, rfl, rfl⟩
theorem c_X9_draw {G : GX} {S : Shp} {I : Mem} {d : Nat} (hsh : SHP S) : PM G yX9_draw cX9_draw 1 (some .int) d 0 0 [.ref 55] S I (Rm S (u2 I 56 0 (zn (I 56 0))) (zs (zn (I 56 0)))) := by
  refine PM.of (ls := [some (.ref 55)]) (by decide) rfl (Nat.le_of_ble_eq_true rfl) rfl ?_
  show PW G RX9 "draw" _ _ _ _ _ _ _ _ _ _ _ _
  refine P_aload0 (pc' := 1) dX9_draw_0 rfl ?_
  refine P_getr (pc' := 4) dX9_draw_1 rfl fl_X9_9 rfl (l_55 hsh) (t_55 hsh) (q_55_0 hsh) ?_
  refine P_iconst (pc' := 5) dX9_draw_4 rfl (v := 0) rfl ?_
  refine P_aload0 (pc' := 6) dX9_draw_5 rfl ?_
  refine P_getr (pc' := 9) dX9_draw_6 rfl fl_X9_9 rfl (l_55 hsh) (t_55 hsh) (q_55_0 hsh) ?_
  refine P_iconst (pc' := 10) dX9_draw_9 rfl (v := 0) rfl ?_
  refine P_iald (pc' := 11) dX9_draw_10 rfl (l_56 hsh) (t_56 hsh) (j := 0) rfl (by decide) (by decide) ?_
  refine P_ldc (pc' := 13) dX9_draw_11 rfl co_X9_128 ?_
  refine P_imul (pc' := 14) dX9_draw_13 rfl ?_
  refine P_sipush (pc' := 17) dX9_draw_14 rfl (v := 12345) rfl ?_
  refine P_iadd (pc' := 18) dX9_draw_17 rfl ?_
  refine P_iast (pc' := 19) dX9_draw_18 rfl (l_56 hsh) (t_56 hsh) (j := 0) rfl (by decide) (by decide) ?_
  refine P_aload0 (pc' := 20) dX9_draw_19 rfl ?_
  refine P_getr (pc' := 23) dX9_draw_20 rfl fl_X9_9 rfl (l_55 hsh) (t_55 hsh) (q_55_0 hsh) ?_
  refine P_iconst (pc' := 24) dX9_draw_23 rfl (v := 0) rfl ?_
  refine P_iald (pc' := 25) dX9_draw_24 rfl (l_56 hsh) (t_56 hsh) (j := 0) rfl (by decide) (by decide) ?_
  refine P_bipush (pc' := 27) dX9_draw_25 rfl (v := 8) rfl ?_
  refine P_iushr (pc' := 28) dX9_draw_27 rfl ?_
  refine P_iret dX9_draw_28 ?_
  exact ⟨by rw [u2_s]; rfl, rfl, rfl⟩
theorem c_rdraw2 {G : GX} {S : Shp} {I : Mem} {d : Nat} {z : Int32} (hsh : SHP S) : PM G yX9_draw cX9_draw 1 (some .int) d 0 0 [.ref 55] S (u2 I 56 0 z) (Rm S (u2 I 56 0 (zn z)) (zs (zn z))) := by
  have h := c_X9_draw (G := G) (S := S) (I := u2 I 56 0 z) (d := d) hsh
  rw [u2_s, u2_u2] at h
  exact h
theorem c_X9_comes {G : GX} {S : Shp} {I : Mem} {d n : Nat} {k c s : Int32} (hsh : SHP S) (hz : I 56 1 = nI n) (hn : n ≤ 8) (hd : 1 ≤ d) : PM G yX9_comes cX9_comes 5 (some .int) d 0 0 [.ref 55, .int k, .int c, .int s] S I (Rm S (u2 (u2 (u2 (u2 (u2 (u2 I 56 (16 + 5 * n) k) 56 (17 + 5 * n) c) 56 (18 + 5 * n) s) 56 (19 + 5 * n) 0) 56 (20 + 5 * n) 0) 56 1 (nI (n + 1))) (nI n)) := by
  refine PM.of (ls := [some (.ref 55), some (.int k), some (.int c), some (.int s), none]) (by decide) rfl (Nat.le_of_ble_eq_true rfl) rfl ?_
  show PW G RX9 "comes" _ _ _ _ _ _ _ _ _ _ _ _
  refine P_aload0 (pc' := 1) dX9_comes_0 rfl ?_
  refine P_getr (pc' := 4) dX9_comes_1 rfl fl_X9_9 rfl (l_55 hsh) (t_55 hsh) (q_55_0 hsh) ?_
  refine P_iconst (pc' := 5) dX9_comes_4 rfl (v := 1) rfl ?_
  refine P_iald (pc' := 6) dX9_comes_5 rfl (l_56 hsh) (t_56 hsh) (j := 1) rfl (by decide) (by decide) ?_
  refine P_as hz ?_
  refine P_istore4 (pc' := 8) dX9_comes_6 rfl (by decide) rfl ?_
  refine P_aload0 (pc' := 9) dX9_comes_8 rfl ?_
  refine P_iload4 (pc' := 11) dX9_comes_9 rfl ?_
  have e0 : 16 + 5 * n + 0 = 16 + 5 * n := by omega
  have e1 : 16 + 5 * n + 1 = 17 + 5 * n := by omega
  have e2 : 16 + 5 * n + 2 = 18 + 5 * n := by omega
  have e3 : 16 + 5 * n + 3 = 19 + 5 * n := by omega
  have e4 : 16 + 5 * n + 4 = 20 + 5 * n := by omega
  refine P_iconst (pc' := 12) dX9_comes_11 rfl (v := 0) rfl ?_
  refine P_iload1 (pc' := 13) dX9_comes_12 rfl ?_
  refine P_callV3 (pc' := 16) dX9_comes_13 rfl lk_X9_79 (l_55 hsh) (t_55 hsh) (c_X9_put (k := 0) (d := 0) hsh (by omega) (by decide)) (by omega) (Nat.le_of_ble_eq_true rfl) (fun r S' I' hq => ?_)
  obtain ⟨rfl, rfl, rfl⟩ := hq
  refine P_aload0 (pc' := 17) dX9_comes_16 rfl ?_
  refine P_iload4 (pc' := 19) dX9_comes_17 rfl ?_
  refine P_iconst (pc' := 20) dX9_comes_19 rfl (v := 1) rfl ?_
  refine P_iload2 (pc' := 21) dX9_comes_20 rfl ?_
  refine P_callV3 (pc' := 24) dX9_comes_21 rfl lk_X9_79 (l_55 hsh) (t_55 hsh) (c_X9_put (k := 1) (d := 0) hsh (by omega) (by decide)) (by omega) (Nat.le_of_ble_eq_true rfl) (fun r S' I' hq => ?_)
  obtain ⟨rfl, rfl, rfl⟩ := hq
  refine P_aload0 (pc' := 25) dX9_comes_24 rfl ?_
  refine P_iload4 (pc' := 27) dX9_comes_25 rfl ?_
  refine P_iconst (pc' := 28) dX9_comes_27 rfl (v := 2) rfl ?_
  refine P_iload3 (pc' := 29) dX9_comes_28 rfl ?_
  refine P_callV3 (pc' := 32) dX9_comes_29 rfl lk_X9_79 (l_55 hsh) (t_55 hsh) (c_X9_put (k := 2) (d := 0) hsh (by omega) (by decide)) (by omega) (Nat.le_of_ble_eq_true rfl) (fun r S' I' hq => ?_)
  obtain ⟨rfl, rfl, rfl⟩ := hq
  refine P_aload0 (pc' := 33) dX9_comes_32 rfl ?_
  refine P_iload4 (pc' := 35) dX9_comes_33 rfl ?_
  refine P_iconst (pc' := 36) dX9_comes_35 rfl (v := 3) rfl ?_
  refine P_iconst (pc' := 37) dX9_comes_36 rfl (v := 0) rfl ?_
  refine P_callV3 (pc' := 40) dX9_comes_37 rfl lk_X9_79 (l_55 hsh) (t_55 hsh) (c_X9_put (k := 3) (d := 0) hsh (by omega) (by decide)) (by omega) (Nat.le_of_ble_eq_true rfl) (fun r S' I' hq => ?_)
  obtain ⟨rfl, rfl, rfl⟩ := hq
  refine P_aload0 (pc' := 41) dX9_comes_40 rfl ?_
  refine P_iload4 (pc' := 43) dX9_comes_41 rfl ?_
  refine P_iconst (pc' := 44) dX9_comes_43 rfl (v := 4) rfl ?_
  refine P_iconst (pc' := 45) dX9_comes_44 rfl (v := 0) rfl ?_
  refine P_callV3 (pc' := 48) dX9_comes_45 rfl lk_X9_79 (l_55 hsh) (t_55 hsh) (c_X9_put (k := 4) (d := 0) hsh (by omega) (by decide)) (by omega) (Nat.le_of_ble_eq_true rfl) (fun r S' I' hq => ?_)
  obtain ⟨rfl, rfl, rfl⟩ := hq
  refine P_aload0 (pc' := 49) dX9_comes_48 rfl ?_
  refine P_getr (pc' := 52) dX9_comes_49 rfl fl_X9_9 rfl (l_55 hsh) (t_55 hsh) (q_55_0 hsh) ?_
  refine P_iconst (pc' := 53) dX9_comes_52 rfl (v := 1) rfl ?_
  refine P_dup2 (pc' := 54) dX9_comes_53 rfl rfl rfl ?_
  refine P_iald (pc' := 55) dX9_comes_54 rfl (l_56 hsh) (t_56 hsh) (j := 1) rfl (by decide) (by decide) ?_
  refine P_iconst (pc' := 56) dX9_comes_55 rfl (v := 1) rfl ?_
  refine P_iadd (pc' := 57) dX9_comes_56 rfl ?_
  refine P_as (y := nI (n + 1)) (by rw [u2_k (by omega), u2_k (by omega), u2_k (by omega), u2_k (by omega), u2_k (by omega), hz, nI_1]) ?_
  refine P_iast (pc' := 58) dX9_comes_57 rfl (l_56 hsh) (t_56 hsh) (j := 1) rfl (by decide) (by decide) ?_
  refine P_iload4 (pc' := 60) dX9_comes_58 rfl ?_
  refine P_iret dX9_comes_60 ?_
  rw [e0, e1, e2, e3, e4]
  exact ⟨rfl, rfl, rfl⟩
/-- the reference's store -/
def aR (I : Mem) : Nat → Int32 := fun i => if i < 61 then I 56 i else 0
theorem aR_rd (I : Mem) {i : Nat} (h : i < 61) : I 56 i = aR I i := (if_pos h).symm
theorem aR_u {I : Mem} {i : Nat} (h : i < 61) (v : Int32) : aR (u2 I 56 i v) = upd (aR I) i v := by
  funext j
  unfold aR upd
  by_cases hj : j = i
  · subst hj; rw [if_pos h, if_pos rfl, u2_s]
  · rw [if_neg hj, u2_k hj]
theorem aR_o {I J : Mem} (h : J 56 = I 56) : aR J = aR I := by unfold aR; rw [h]
/-- what the reference's hours leave alone -/
def FrR (I J : Mem) : Prop := (∀ x, x ≠ 56 → x ≠ 66 → x ≠ 67 → J x = I x) ∧ ∀ i, 61 ≤ i → J 56 i = I 56 i
theorem FrR.rf {I : Mem} : FrR I I := ⟨fun _ _ _ _ => rfl, fun _ _ => rfl⟩
theorem FrR.tr {I J K : Mem} (h1 : FrR I J) (h2 : FrR J K) : FrR I K := ⟨fun x a b c => (h2.1 x a b c).trans (h1.1 x a b c), fun i hi => (h2.2 i hi).trans (h1.2 i hi)⟩
theorem FrR.put {I J : Mem} {i : Nat} {v : Int32} (h : FrR I J) (hi : i < 61) : FrR I (u2 J 56 i v) := ⟨fun x a b c => (u2_row a).trans (h.1 x a b c), fun j hj => (u2_k (by omega)).trans (h.2 j hj)⟩
/-! laws in the reference: its steps -/
def cz (k : Int32) : Int32 := if k = -1 then 124 else if k = -2 then 38 else if k = -3 then 60 else if k = -4 then 61 else if k = -5 then 62 else if k = -6 then 43 else if k = -7 then 45 else if k = -8 then 42 else 47
def isS (k : Int32) : Prop := k = -1 ∨ k = -2 ∨ k = -3 ∨ k = -4 ∨ k = -5 ∨ k = -6 ∨ k = -7 ∨ k = -8 ∨ k = -9
theorem c_X9_two {G : GX} {S : Shp} {I : Mem} {d : Nat} (k x y : Int32) (hk : isS k) : PM G yX9_two cX9_two 3 (some .int) d 0 0 [.int k, .int x, .int y] S I (Rm S I (jn (cz k) x y)) := by
  refine PM.of (ls := [some (.int k), some (.int x), some (.int y)]) (by decide) rfl (Nat.le_of_ble_eq_true rfl) rfl ?_
  show PW G RX9 "two" _ _ _ _ _ _ _ _ _ _ _ _
  rcases hk with rfl | rfl | rfl | rfl | rfl | rfl | rfl | rfl | rfl
  · skip
    refine P_iload0 (pc' := 1) dX9_two_0 rfl ?_
    refine P_tabIn (tgt := 48) dX9_two_1 (by decide) (by decide) rfl rfl ?_
    refine P_iload1 (pc' := 49) dX9_two_48 rfl ?_
    refine P_if_ne (tgt := 56) (pc' := 52) dX9_two_49 rfl rfl (fun h49 => ?_) (fun h49 => ?_)
    · refine P_iconst (pc' := 57) dX9_two_56 rfl (v := 1) rfl ?_
      refine P_goto (tgt := 61) dX9_two_57 rfl ?_
      refine P_iret dX9_two_61 ?_
      exact ⟨by simp [jn, cz, *], rfl, rfl⟩
    · refine P_iload2 (pc' := 53) dX9_two_52 rfl ?_
      refine P_if_eq (tgt := 60) (pc' := 56) dX9_two_53 rfl rfl (fun h53 => ?_) (fun h53 => ?_)
      · refine P_iconst (pc' := 61) dX9_two_60 rfl (v := 0) rfl ?_
        refine P_iret dX9_two_61 ?_
        exact ⟨by simp [jn, cz, *], rfl, rfl⟩
      · refine P_iconst (pc' := 57) dX9_two_56 rfl (v := 1) rfl ?_
        refine P_goto (tgt := 61) dX9_two_57 rfl ?_
        refine P_iret dX9_two_61 ?_
        exact ⟨by simp [jn, cz, *], rfl, rfl⟩
  · skip
    refine P_iload0 (pc' := 1) dX9_two_0 rfl ?_
    refine P_tabIn (tgt := 62) dX9_two_1 (by decide) (by decide) rfl rfl ?_
    refine P_iload1 (pc' := 63) dX9_two_62 rfl ?_
    refine P_if_eq (tgt := 74) (pc' := 66) dX9_two_63 rfl rfl (fun h63 => ?_) (fun h63 => ?_)
    · refine P_iconst (pc' := 75) dX9_two_74 rfl (v := 0) rfl ?_
      refine P_iret dX9_two_75 ?_
      exact ⟨by simp [jn, cz, *], rfl, rfl⟩
    · refine P_iload2 (pc' := 67) dX9_two_66 rfl ?_
      refine P_if_eq (tgt := 74) (pc' := 70) dX9_two_67 rfl rfl (fun h67 => ?_) (fun h67 => ?_)
      · refine P_iconst (pc' := 75) dX9_two_74 rfl (v := 0) rfl ?_
        refine P_iret dX9_two_75 ?_
        exact ⟨by simp [jn, cz, *], rfl, rfl⟩
      · refine P_iconst (pc' := 71) dX9_two_70 rfl (v := 1) rfl ?_
        refine P_goto (tgt := 75) dX9_two_71 rfl ?_
        refine P_iret dX9_two_75 ?_
        exact ⟨by simp [jn, cz, *], rfl, rfl⟩
  · skip
    refine P_iload0 (pc' := 1) dX9_two_0 rfl ?_
    refine P_tabIn (tgt := 76) dX9_two_1 (by decide) (by decide) rfl rfl ?_
    refine P_iload1 (pc' := 77) dX9_two_76 rfl ?_
    refine P_iload2 (pc' := 78) dX9_two_77 rfl ?_
    refine P_icmp_ge (tgt := 85) (pc' := 81) dX9_two_78 rfl rfl (fun h78 => ?_) (fun h78 => ?_)
    · refine P_iconst (pc' := 86) dX9_two_85 rfl (v := 0) rfl ?_
      refine P_iret dX9_two_86 ?_
      exact ⟨by first | (have q := Int32.not_lt.mpr h78; simp [jn, cz, q]; done) | (have q := Int32.not_le.mp h78; simp [jn, cz, q]; done), rfl, rfl⟩
    · refine P_iconst (pc' := 82) dX9_two_81 rfl (v := 1) rfl ?_
      refine P_goto (tgt := 86) dX9_two_82 rfl ?_
      refine P_iret dX9_two_86 ?_
      exact ⟨by first | (have q := Int32.not_lt.mpr h78; simp [jn, cz, q]; done) | (have q := Int32.not_le.mp h78; simp [jn, cz, q]; done), rfl, rfl⟩
  · skip
    refine P_iload0 (pc' := 1) dX9_two_0 rfl ?_
    refine P_tabIn (tgt := 87) dX9_two_1 (by decide) (by decide) rfl rfl ?_
    refine P_iload1 (pc' := 88) dX9_two_87 rfl ?_
    refine P_iload2 (pc' := 89) dX9_two_88 rfl ?_
    refine P_icmp_ne (tgt := 96) (pc' := 92) dX9_two_89 rfl rfl (fun h89 => ?_) (fun h89 => ?_)
    · refine P_iconst (pc' := 97) dX9_two_96 rfl (v := 0) rfl ?_
      refine P_iret dX9_two_97 ?_
      exact ⟨by simp [jn, cz, *], rfl, rfl⟩
    · refine P_iconst (pc' := 93) dX9_two_92 rfl (v := 1) rfl ?_
      refine P_goto (tgt := 97) dX9_two_93 rfl ?_
      refine P_iret dX9_two_97 ?_
      exact ⟨by simp [jn, cz, *], rfl, rfl⟩
  · skip
    refine P_iload0 (pc' := 1) dX9_two_0 rfl ?_
    refine P_tabIn (tgt := 98) dX9_two_1 (by decide) (by decide) rfl rfl ?_
    refine P_iload1 (pc' := 99) dX9_two_98 rfl ?_
    refine P_iload2 (pc' := 100) dX9_two_99 rfl ?_
    refine P_icmp_le (tgt := 107) (pc' := 103) dX9_two_100 rfl rfl (fun h100 => ?_) (fun h100 => ?_)
    · refine P_iconst (pc' := 108) dX9_two_107 rfl (v := 0) rfl ?_
      refine P_iret dX9_two_108 ?_
      exact ⟨by first | (have q := Int32.not_lt.mpr h100; simp [jn, cz, q]; done) | (have q := Int32.not_le.mp h100; simp [jn, cz, q]; done), rfl, rfl⟩
    · refine P_iconst (pc' := 104) dX9_two_103 rfl (v := 1) rfl ?_
      refine P_goto (tgt := 108) dX9_two_104 rfl ?_
      refine P_iret dX9_two_108 ?_
      exact ⟨by first | (have q := Int32.not_lt.mpr h100; simp [jn, cz, q]; done) | (have q := Int32.not_le.mp h100; simp [jn, cz, q]; done), rfl, rfl⟩
  · skip
    refine P_iload0 (pc' := 1) dX9_two_0 rfl ?_
    refine P_tabIn (tgt := 109) dX9_two_1 (by decide) (by decide) rfl rfl ?_
    refine P_iload1 (pc' := 110) dX9_two_109 rfl ?_
    refine P_iload2 (pc' := 111) dX9_two_110 rfl ?_
    refine P_iadd (pc' := 112) dX9_two_111 rfl ?_
    refine P_iret dX9_two_112 ?_
    exact ⟨rfl, rfl, rfl⟩
  · skip
    refine P_iload0 (pc' := 1) dX9_two_0 rfl ?_
    refine P_tabIn (tgt := 113) dX9_two_1 (by decide) (by decide) rfl rfl ?_
    refine P_iload1 (pc' := 114) dX9_two_113 rfl ?_
    refine P_iload2 (pc' := 115) dX9_two_114 rfl ?_
    refine P_isub (pc' := 116) dX9_two_115 rfl ?_
    refine P_iret dX9_two_116 ?_
    exact ⟨rfl, rfl, rfl⟩
  · skip
    refine P_iload0 (pc' := 1) dX9_two_0 rfl ?_
    refine P_tabIn (tgt := 117) dX9_two_1 (by decide) (by decide) rfl rfl ?_
    refine P_iload1 (pc' := 118) dX9_two_117 rfl ?_
    refine P_iload2 (pc' := 119) dX9_two_118 rfl ?_
    refine P_imul (pc' := 120) dX9_two_119 rfl ?_
    refine P_iret dX9_two_120 ?_
    exact ⟨rfl, rfl, rfl⟩
  · skip
    refine P_iload0 (pc' := 1) dX9_two_0 rfl ?_
    refine P_tabOut (tgt := 121) dX9_two_1 (by decide) rfl ?_
    refine P_iload2 (pc' := 122) dX9_two_121 rfl ?_
    refine P_if_ne (tgt := 129) (pc' := 125) dX9_two_122 rfl rfl (fun h122 => ?_) (fun h122 => ?_)
    · refine P_iload1 (pc' := 130) dX9_two_129 rfl ?_
      refine P_iload2 (pc' := 131) dX9_two_130 rfl ?_
      refine P_idiv (pc' := 132) dX9_two_131 rfl h122 ?_
      refine P_iret dX9_two_132 ?_
      exact ⟨by simp [jn, cz, *], rfl, rfl⟩
    · refine P_iconst (pc' := 126) dX9_two_125 rfl (v := 0) rfl ?_
      refine P_goto (tgt := 132) dX9_two_126 rfl ?_
      refine P_iret dX9_two_132 ?_
      exact ⟨by simp [jn, cz, *], rfl, rfl⟩

