theorem c_X8_within {G : GX} {S : Shp} {I : Mem} {d : Nat} (v lo hi : Int32) : PM G yX8_within cX8_within 3 (some .boolean) d 0 0 [.int v, .int lo, .int hi] S I (Rm S I (if lo ≤ v ∧ v ≤ hi then 1 else 0)) := by
  refine PM.of (ls := [some (.int v), some (.int lo), some (.int hi)]) (by decide) rfl (Nat.le_of_ble_eq_true rfl) rfl ?_
  show PW G RX8 "within" _ _ _ _ _ _ _ _ _ _ _ _
  refine P_iload0 (pc' := 1) dX8_within_0 rfl ?_
  refine P_iload1 (pc' := 2) dX8_within_1 rfl ?_
  refine P_icmp_lt (tgt := 14) (pc' := 5) dX8_within_2 rfl rfl (fun h2 => ?_) (fun h2 => ?_)
  · refine P_iconst (pc' := 15) dX8_within_14 rfl (v := 0) rfl ?_
    refine P_zret dX8_within_15 (by first | exact Or.inl rfl | exact Or.inr rfl) ?_
    exact ⟨by simp_all, rfl, rfl⟩
  · refine P_iload0 (pc' := 6) dX8_within_5 rfl ?_
    refine P_iload2 (pc' := 7) dX8_within_6 rfl ?_
    refine P_icmp_gt (tgt := 14) (pc' := 10) dX8_within_7 rfl rfl (fun h7 => ?_) (fun h7 => ?_)
    · refine P_iconst (pc' := 15) dX8_within_14 rfl (v := 0) rfl ?_
      refine P_zret dX8_within_15 (by first | exact Or.inl rfl | exact Or.inr rfl) ?_
      exact ⟨by simp_all, rfl, rfl⟩
    · refine P_iconst (pc' := 11) dX8_within_10 rfl (v := 1) rfl ?_
      refine P_goto (tgt := 15) dX8_within_11 rfl ?_
      refine P_zret dX8_within_15 (by first | exact Or.inl rfl | exact Or.inr rfl) ?_
      exact ⟨by simp_all, rfl, rfl⟩
theorem c_X5_draw {G : GX} {S : Shp} {I : Mem} {d o : Nat} (hsh : SHP S) (ho : StO o) : PM G yX5_draw cX5_draw 1 (some .int) d 0 0 [.ref o] S I (Rm S (u2 I o 12 (I o 12 * 1103515245 + 12345)) (((I o 12 * 1103515245 + 12345).toUInt32 >>> ((8 : Int32).toUInt32 &&& Int32.toUInt32 31)).toInt32)) := by
  refine PM.of (ls := [some (.ref o)]) (by decide) rfl (Nat.le_of_ble_eq_true rfl) rfl ?_
  show PW G RX5 "draw" _ _ _ _ _ _ _ _ _ _ _ _
  refine P_aload0 (pc' := 1) dX5_draw_0 rfl ?_
  refine P_aload0 (pc' := 2) dX5_draw_1 rfl ?_
  refine P_geti (pc' := 5) dX5_draw_2 rfl fl_X5_50 rfl (so_l0 hsh ho) (so_t0 hsh ho) ?_
  refine P_ldc (pc' := 7) dX5_draw_5 rfl co_X5_80 ?_
  refine P_imul (pc' := 8) dX5_draw_7 rfl ?_
  refine P_sipush (pc' := 11) dX5_draw_8 rfl (v := 12345) rfl ?_
  refine P_iadd (pc' := 12) dX5_draw_11 rfl ?_
  refine P_puti (pc' := 15) dX5_draw_12 rfl fl_X5_50 rfl (so_l0 hsh ho) (so_t0 hsh ho) ?_
  refine P_aload0 (pc' := 16) dX5_draw_15 rfl ?_
  refine P_geti (pc' := 19) dX5_draw_16 rfl fl_X5_50 rfl (so_l0 hsh ho) (so_t0 hsh ho) ?_
  refine P_bipush (pc' := 21) dX5_draw_19 rfl (v := 8) rfl ?_
  refine P_iushr (pc' := 22) dX5_draw_21 rfl ?_
  refine P_iret dX5_draw_22 ?_
  exact ⟨by rw [u2_s], rfl, rfl⟩

