theorem c_X8_within {G : GX} {S : Shp} {I : Mem} {d : Nat} (v lo hi : Int32) : PM G yX8_within cX8_within 3 (some .boolean) d 0 0 [.int v, .int lo, .int hi] S I (Rm S I (if lo ≤ v ∧ v ≤ hi then 1 else 0)) := by
  refine PM.of (ls := [some (.int v), some (.int lo), some (.int hi)]) (by decide) rfl (Nat.le_of_ble_eq_true rfl) rfl ?_
  show PW G RX8 "within" _ _ _ _ _ _ _ _ _ _ _ _
  refine P_iload0 (pc' := 1) dX8_within_0 rfl ?_
  refine P_iload1 (pc' := 2) dX8_within_1 rfl ?_
  refine P_icmp_lt (tgt := 14) (pc' := 5) dX8_within_2 rfl rfl (fun h2 => ?_) (fun h2 => ?_)
  · refine P_iconst (pc' := 15) dX8_within_14 rfl (v := 0) rfl ?_
    refine P_zret dX8_within_15 (by first | exact Or.inl rfl | exact Or.inr rfl) ?_
    first | exact ⟨by rw [if_neg (fun q => absurd q.1 (Int32.not_le.mpr h2))], rfl, rfl⟩ | exact ⟨by rw [if_neg (fun q => absurd q.2 (Int32.not_le.mpr h7))], rfl, rfl⟩ | exact ⟨by rw [if_pos ⟨Int32.not_lt.mp h2, Int32.not_lt.mp h7⟩], rfl, rfl⟩
  · refine P_iload0 (pc' := 6) dX8_within_5 rfl ?_
    refine P_iload2 (pc' := 7) dX8_within_6 rfl ?_
    refine P_icmp_gt (tgt := 14) (pc' := 10) dX8_within_7 rfl rfl (fun h7 => ?_) (fun h7 => ?_)
    · refine P_iconst (pc' := 15) dX8_within_14 rfl (v := 0) rfl ?_
      refine P_zret dX8_within_15 (by first | exact Or.inl rfl | exact Or.inr rfl) ?_
      first | exact ⟨by rw [if_neg (fun q => absurd q.1 (Int32.not_le.mpr h2))], rfl, rfl⟩ | exact ⟨by rw [if_neg (fun q => absurd q.2 (Int32.not_le.mpr h7))], rfl, rfl⟩ | exact ⟨by rw [if_pos ⟨Int32.not_lt.mp h2, Int32.not_lt.mp h7⟩], rfl, rfl⟩
    · refine P_iconst (pc' := 11) dX8_within_10 rfl (v := 1) rfl ?_
      refine P_goto (tgt := 15) dX8_within_11 rfl ?_
      refine P_zret dX8_within_15 (by first | exact Or.inl rfl | exact Or.inr rfl) ?_
      first | exact ⟨by rw [if_neg (fun q => absurd q.1 (Int32.not_le.mpr h2))], rfl, rfl⟩ | exact ⟨by rw [if_neg (fun q => absurd q.2 (Int32.not_le.mpr h7))], rfl, rfl⟩ | exact ⟨by rw [if_pos ⟨Int32.not_lt.mp h2, Int32.not_lt.mp h7⟩], rfl, rfl⟩
def zs (z : Int32) : Int32 := (z.toUInt32 >>> ((8 : Int32).toUInt32 &&& Int32.toUInt32 31)).toInt32
def zn (z : Int32) : Int32 := z * 1103515245 + 12345
def rm (x y : Int32) : Int32 := x - x / y * y
theorem c_X5_draw {G : GX} {S : Shp} {I : Mem} {d o : Nat} (hsh : SHP S) (ho : StO o) : PM G yX5_draw cX5_draw 1 (some .int) d 0 0 [.ref o] S I (Rm S (u2 I o 12 (zn (I o 12))) (zs (zn (I o 12)))) := by
  refine PM.of (ls := [some (.ref o)]) (by decide) rfl (Nat.le_of_ble_eq_true rfl) rfl ?_
  show PW G RX5 "draw" _ _ _ _ _ _ _ _ _ _ _ _
  refine P_aload0 (pc' := 1) dX5_draw_0 rfl ?_
  refine P_aload0 (pc' := 2) dX5_draw_1 rfl ?_
  refine P_geti (pc' := 5) dX5_draw_2 rfl fl_X5_50 rfl (so_l0 hsh ho) (so_t0 hsh ho) ?_
  refine P_ldc (pc' := 7) dX5_draw_5 rfl co_X5_80 ?_
  refine P_imul (pc' := 8) dX5_draw_7 rfl ?_
  refine P_sipush (pc' := 11) dX5_draw_8 rfl (v := 12345) rfl ?_
  refine P_iadd (pc' := 12) dX5_draw_11 rfl ?_
  refine P_puti (pc' := 15) dX5_draw_12 rfl fl_X5_50 rfl (so_l0 hsh ho) (so_t0 hsh ho) ?_
  refine P_aload0 (pc' := 16) dX5_draw_15 rfl ?_
  refine P_geti (pc' := 19) dX5_draw_16 rfl fl_X5_50 rfl (so_l0 hsh ho) (so_t0 hsh ho) ?_
  refine P_bipush (pc' := 21) dX5_draw_19 rfl (v := 8) rfl ?_
  refine P_iushr (pc' := 22) dX5_draw_21 rfl ?_
  refine P_iret dX5_draw_22 ?_
  exact ⟨by rw [u2_s]; rfl, rfl, rfl⟩
def hl (v lo hi : Int32) : Int32 := if v < lo then lo else if hi < v then hi else v
theorem c_X8_held {G : GX} {S : Shp} {I : Mem} {d : Nat} (v lo hi : Int32) : PM G yX8_held cX8_held 3 (some .int) d 0 0 [.int v, .int lo, .int hi] S I (Rm S I (hl v lo hi)) := by
  refine PM.of (ls := [some (.int v), some (.int lo), some (.int hi)]) (by decide) rfl (Nat.le_of_ble_eq_true rfl) rfl ?_
  show PW G RX8 "held" _ _ _ _ _ _ _ _ _ _ _ _
  refine P_iload0 (pc' := 1) dX8_held_0 rfl ?_
  refine P_iload1 (pc' := 2) dX8_held_1 rfl ?_
  refine P_icmp_ge (tgt := 9) (pc' := 5) dX8_held_2 rfl rfl (fun h2 => ?_) (fun h2 => ?_)
  · refine P_iload0 (pc' := 10) dX8_held_9 rfl ?_
    refine P_iload2 (pc' := 11) dX8_held_10 rfl ?_
    refine P_icmp_le (tgt := 18) (pc' := 14) dX8_held_11 rfl rfl (fun h11 => ?_) (fun h11 => ?_)
    · refine P_iload0 (pc' := 19) dX8_held_18 rfl ?_
      refine P_iret dX8_held_19 ?_
      exact ⟨by unfold hl; first | rw [if_pos (Int32.not_le.mp h2)] | rw [if_neg (Int32.not_lt.mpr h2), if_pos (Int32.not_le.mp h11)] | rw [if_neg (Int32.not_lt.mpr h2), if_neg (Int32.not_lt.mpr h11)], rfl, rfl⟩
    · refine P_iload2 (pc' := 15) dX8_held_14 rfl ?_
      refine P_goto (tgt := 19) dX8_held_15 rfl ?_
      refine P_iret dX8_held_19 ?_
      exact ⟨by unfold hl; first | rw [if_pos (Int32.not_le.mp h2)] | rw [if_neg (Int32.not_lt.mpr h2), if_pos (Int32.not_le.mp h11)] | rw [if_neg (Int32.not_lt.mpr h2), if_neg (Int32.not_lt.mpr h11)], rfl, rfl⟩
  · refine P_iload1 (pc' := 6) dX8_held_5 rfl ?_
    refine P_goto (tgt := 19) dX8_held_6 rfl ?_
    refine P_iret dX8_held_19 ?_
    exact ⟨by unfold hl; first | rw [if_pos (Int32.not_le.mp h2)] | rw [if_neg (Int32.not_lt.mpr h2), if_pos (Int32.not_le.mp h11)] | rw [if_neg (Int32.not_lt.mpr h2), if_neg (Int32.not_lt.mpr h11)], rfl, rfl⟩
/-- whether one is within, as an int -/
def wi (v lo hi : Int32) : Int32 := if lo ≤ v ∧ v ≤ hi then 1 else 0
theorem wi_01 (v lo hi : Int32) : wi v lo hi = 0 ∨ wi v lo hi = 1 := by unfold wi; split <;> simp
theorem c_X8_isKind {G : GX} {S : Shp} {I : Mem} {d : Nat} (v : Int32) (hd : 1 ≤ d) : PM G yX8_isKind cX8_isKind 1 (some .boolean) d 0 0 [.int v] S I (Rm S I (wi v 0 5)) := by
  refine PM.of (ls := [some (.int v)]) (by decide) rfl (Nat.le_of_ble_eq_true rfl) rfl ?_
  show PW G RX8 "isKind" _ _ _ _ _ _ _ _ _ _ _ _
  refine P_iload0 (pc' := 1) dX8_isKind_0 rfl ?_
  refine P_iconst (pc' := 2) dX8_isKind_1 rfl (v := 0) rfl ?_
  refine P_iconst (pc' := 3) dX8_isKind_2 rfl (v := 5) rfl ?_
  refine P_callS3 (pc' := 6) dX8_isKind_3 rfl lk_X8_77 (c_X8_within (d := 0) v 0 5) (by omega) (Nat.le_of_ble_eq_true rfl) (fun r S' I' hq => ?_)
  obtain ⟨rfl, rfl, rfl⟩ := hq
  refine P_zret dX8_isKind_6 (wi_01 v 0 5) ?_
  exact ⟨rfl, rfl, rfl⟩
theorem c_X8_isCorner {G : GX} {S : Shp} {I : Mem} {d : Nat} (v : Int32) (hd : 1 ≤ d) : PM G yX8_isCorner cX8_isCorner 1 (some .boolean) d 0 0 [.int v] S I (Rm S I (wi v 0 7)) := by
  refine PM.of (ls := [some (.int v)]) (by decide) rfl (Nat.le_of_ble_eq_true rfl) rfl ?_
  show PW G RX8 "isCorner" _ _ _ _ _ _ _ _ _ _ _ _
  refine P_iload0 (pc' := 1) dX8_isCorner_0 rfl ?_
  refine P_iconst (pc' := 2) dX8_isCorner_1 rfl (v := 0) rfl ?_
  refine P_bipush (pc' := 4) dX8_isCorner_2 rfl (v := 7) rfl ?_
  refine P_callS3 (pc' := 7) dX8_isCorner_4 rfl lk_X8_77 (c_X8_within (d := 0) v 0 7) (by omega) (Nat.le_of_ble_eq_true rfl) (fun r S' I' hq => ?_)
  obtain ⟨rfl, rfl, rfl⟩ := hq
  refine P_zret dX8_isCorner_7 (wi_01 v 0 7) ?_
  exact ⟨rfl, rfl, rfl⟩
theorem c_X8_isSheet {G : GX} {S : Shp} {I : Mem} {d : Nat} (v : Int32) (hd : 1 ≤ d) : PM G yX8_isSheet cX8_isSheet 1 (some .boolean) d 0 0 [.int v] S I (Rm S I (wi v 0 3)) := by
  refine PM.of (ls := [some (.int v)]) (by decide) rfl (Nat.le_of_ble_eq_true rfl) rfl ?_
  show PW G RX8 "isSheet" _ _ _ _ _ _ _ _ _ _ _ _
  refine P_iload0 (pc' := 1) dX8_isSheet_0 rfl ?_
  refine P_iconst (pc' := 2) dX8_isSheet_1 rfl (v := 0) rfl ?_
  refine P_iconst (pc' := 3) dX8_isSheet_2 rfl (v := 3) rfl ?_
  refine P_callS3 (pc' := 6) dX8_isSheet_3 rfl lk_X8_77 (c_X8_within (d := 0) v 0 3) (by omega) (Nat.le_of_ble_eq_true rfl) (fun r S' I' hq => ?_)
  obtain ⟨rfl, rfl, rfl⟩ := hq
  refine P_zret dX8_isSheet_6 (wi_01 v 0 3) ?_
  exact ⟨rfl, rfl, rfl⟩
theorem c_X8_isSlot {G : GX} {S : Shp} {I : Mem} {d : Nat} (v : Int32) (hd : 1 ≤ d) : PM G yX8_isSlot cX8_isSlot 1 (some .boolean) d 0 0 [.int v] S I (Rm S I (wi v 0 4)) := by
  refine PM.of (ls := [some (.int v)]) (by decide) rfl (Nat.le_of_ble_eq_true rfl) rfl ?_
  show PW G RX8 "isSlot" _ _ _ _ _ _ _ _ _ _ _ _
  refine P_iload0 (pc' := 1) dX8_isSlot_0 rfl ?_
  refine P_iconst (pc' := 2) dX8_isSlot_1 rfl (v := 0) rfl ?_
  refine P_iconst (pc' := 3) dX8_isSlot_2 rfl (v := 4) rfl ?_
  refine P_callS3 (pc' := 6) dX8_isSlot_3 rfl lk_X8_77 (c_X8_within (d := 0) v 0 4) (by omega) (Nat.le_of_ble_eq_true rfl) (fun r S' I' hq => ?_)
  obtain ⟨rfl, rfl, rfl⟩ := hq
  refine P_zret dX8_isSlot_6 (wi_01 v 0 4) ?_
  exact ⟨rfl, rfl, rfl⟩
def gc (p m : Int32) : Int32 := if m < 5 then p else 2 * p
theorem c_X1_giftOfChild {G : GX} {S : Shp} {I : Mem} {d : Nat} (p m : Int32) : PM G yX1_giftOfChild cX1_giftOfChild 2 (some .int) d 0 0 [.int p, .int m] S I (Rm S I (gc p m)) := by
  refine PM.of (ls := [some (.int p), some (.int m)]) (by decide) rfl (Nat.le_of_ble_eq_true rfl) rfl ?_
  show PW G RX1 "giftOfChild" _ _ _ _ _ _ _ _ _ _ _ _
  refine P_iload1 (pc' := 1) dX1_giftOfChild_0 rfl ?_
  refine P_iconst (pc' := 2) dX1_giftOfChild_1 rfl (v := 5) rfl ?_
  refine P_icmp_lt (tgt := 11) (pc' := 5) dX1_giftOfChild_2 rfl rfl (fun h2 => ?_) (fun h2 => ?_)
  · refine P_iload0 (pc' := 12) dX1_giftOfChild_11 rfl ?_
    refine P_iret dX1_giftOfChild_12 ?_
    exact ⟨by simp only [gc, h2, if_true, if_false], rfl, rfl⟩
  · refine P_iconst (pc' := 6) dX1_giftOfChild_5 rfl (v := 2) rfl ?_
    refine P_iload0 (pc' := 7) dX1_giftOfChild_6 rfl ?_
    refine P_imul (pc' := 8) dX1_giftOfChild_7 rfl ?_
    refine P_goto (tgt := 12) dX1_giftOfChild_8 rfl ?_
    refine P_iret dX1_giftOfChild_12 ?_
    exact ⟨by simp only [gc, h2, if_true, if_false], rfl, rfl⟩
def kGift (k p m g q : Int32) : Int32 :=
  if k = 1 then p + m / 3 else if k = 3 then (if q = 0 then p + m / 3 else (p + m / 3) / 2) else if k = 2 then gc p m else if k = 4 then (if m < 8 then gc p m else 0) else if k = 5 then (if 3 ≤ g then (if p - 1 < 0 then 0 else p - 1) else 0) else p
def isK (k : Int32) : Prop := k = 0 ∨ k = 1 ∨ k = 2 ∨ k = 3 ∨ k = 4 ∨ k = 5
theorem c_X1_gift {G : GX} {S : Shp} {I : Mem} {d : Nat} (k p m g q : Int32) (hk : isK k) (hd : 1 ≤ d) : PM G yX1_gift cX1_gift 5 (some .int) d 0 0 [.int k, .int p, .int m, .int g, .int q] S I (Rm S I (kGift k p m g q)) := by
  refine PM.of (ls := [some (.int k), some (.int p), some (.int m), some (.int g), some (.int q)]) (by decide) rfl (Nat.le_of_ble_eq_true rfl) rfl ?_
  show PW G RX1 "gift" _ _ _ _ _ _ _ _ _ _ _ _
  rcases hk with rfl | rfl | rfl | rfl | rfl | rfl
  · skip
    refine P_iload0 (pc' := 1) dX1_gift_0 rfl ?_
    refine P_tabOut (tgt := 102) dX1_gift_1 (by decide) rfl ?_
    refine P_iload1 (pc' := 103) dX1_gift_102 rfl ?_
    refine P_iret dX1_gift_103 ?_
    exact ⟨rfl, rfl, rfl⟩
  · skip
    refine P_iload0 (pc' := 1) dX1_gift_0 rfl ?_
    refine P_tabIn (tgt := 36) dX1_gift_1 (by decide) (by decide) rfl rfl ?_
    refine P_iload1 (pc' := 37) dX1_gift_36 rfl ?_
    refine P_iload2 (pc' := 38) dX1_gift_37 rfl ?_
    refine P_iconst (pc' := 39) dX1_gift_38 rfl (v := 3) rfl ?_
    refine P_idiv (pc' := 40) dX1_gift_39 rfl (by decide) ?_
    refine P_iadd (pc' := 41) dX1_gift_40 rfl ?_
    refine P_iret dX1_gift_41 ?_
    exact ⟨rfl, rfl, rfl⟩
  · skip
    refine P_iload0 (pc' := 1) dX1_gift_0 rfl ?_
    refine P_tabIn (tgt := 63) dX1_gift_1 (by decide) (by decide) rfl rfl ?_
    refine P_iload1 (pc' := 64) dX1_gift_63 rfl ?_
    refine P_iload2 (pc' := 65) dX1_gift_64 rfl ?_
    refine P_callS2 (pc' := 68) dX1_gift_65 rfl lk_X1_19 (c_X1_giftOfChild (d := 0) p m) (by omega) (Nat.le_of_ble_eq_true rfl) (fun r S' I' hq => ?_)
    obtain ⟨rfl, rfl, rfl⟩ := hq
    refine P_iret dX1_gift_68 ?_
    exact ⟨rfl, rfl, rfl⟩
  · skip
    refine P_iload0 (pc' := 1) dX1_gift_0 rfl ?_
    refine P_tabIn (tgt := 42) dX1_gift_1 (by decide) (by decide) rfl rfl ?_
    refine P_iload4 (pc' := 44) dX1_gift_42 rfl ?_
    refine P_if_eq (tgt := 57) (pc' := 47) dX1_gift_44 rfl rfl (fun h44 => ?_) (fun h44 => ?_)
    · refine P_iload1 (pc' := 58) dX1_gift_57 rfl ?_
      refine P_iload2 (pc' := 59) dX1_gift_58 rfl ?_
      refine P_iconst (pc' := 60) dX1_gift_59 rfl (v := 3) rfl ?_
      refine P_idiv (pc' := 61) dX1_gift_60 rfl (by decide) ?_
      refine P_iadd (pc' := 62) dX1_gift_61 rfl ?_
      refine P_iret dX1_gift_62 ?_
      exact ⟨by simp [kGift, h44], rfl, rfl⟩
    · refine P_iload1 (pc' := 48) dX1_gift_47 rfl ?_
      refine P_iload2 (pc' := 49) dX1_gift_48 rfl ?_
      refine P_iconst (pc' := 50) dX1_gift_49 rfl (v := 3) rfl ?_
      refine P_idiv (pc' := 51) dX1_gift_50 rfl (by decide) ?_
      refine P_iadd (pc' := 52) dX1_gift_51 rfl ?_
      refine P_iconst (pc' := 53) dX1_gift_52 rfl (v := 2) rfl ?_
      refine P_idiv (pc' := 54) dX1_gift_53 rfl (by decide) ?_
      refine P_goto (tgt := 62) dX1_gift_54 rfl ?_
      refine P_iret dX1_gift_62 ?_
      exact ⟨by simp [kGift, h44], rfl, rfl⟩
  · skip
    refine P_iload0 (pc' := 1) dX1_gift_0 rfl ?_
    refine P_tabIn (tgt := 69) dX1_gift_1 (by decide) (by decide) rfl rfl ?_
    refine P_iload2 (pc' := 70) dX1_gift_69 rfl ?_
    refine P_bipush (pc' := 72) dX1_gift_70 rfl (v := 8) rfl ?_
    refine P_icmp_lt (tgt := 79) (pc' := 75) dX1_gift_72 rfl rfl (fun h72 => ?_) (fun h72 => ?_)
    · refine P_iload1 (pc' := 80) dX1_gift_79 rfl ?_
      refine P_iload2 (pc' := 81) dX1_gift_80 rfl ?_
      refine P_callS2 (pc' := 84) dX1_gift_81 rfl lk_X1_19 (c_X1_giftOfChild (d := 0) p m) (by omega) (Nat.le_of_ble_eq_true rfl) (fun r S' I' hq => ?_)
      obtain ⟨rfl, rfl, rfl⟩ := hq
      refine P_iret dX1_gift_84 ?_
      exact ⟨by simp only [kGift, h72]; rfl, rfl, rfl⟩
    · refine P_iconst (pc' := 76) dX1_gift_75 rfl (v := 0) rfl ?_
      refine P_goto (tgt := 84) dX1_gift_76 rfl ?_
      refine P_iret dX1_gift_84 ?_
      exact ⟨by simp only [kGift, h72]; rfl, rfl, rfl⟩
  · skip
    refine P_iload0 (pc' := 1) dX1_gift_0 rfl ?_
    refine P_tabIn (tgt := 85) dX1_gift_1 (by decide) (by decide) rfl rfl ?_
    refine P_iload3 (pc' := 86) dX1_gift_85 rfl ?_
    refine P_iconst (pc' := 87) dX1_gift_86 rfl (v := 3) rfl ?_
    refine P_icmp_ge (tgt := 94) (pc' := 90) dX1_gift_87 rfl rfl (fun h87 => ?_) (fun h87 => ?_)
    · refine P_iload1 (pc' := 95) dX1_gift_94 rfl ?_
      refine P_iconst (pc' := 96) dX1_gift_95 rfl (v := 1) rfl ?_
      refine P_isub (pc' := 97) dX1_gift_96 rfl ?_
      refine P_iconst (pc' := 98) dX1_gift_97 rfl (v := 0) rfl ?_
      refine P_max (pc' := 101) dX1_gift_98 rfl lk_X1_23 (by omega) (Nat.le_of_ble_eq_true rfl) ?_
      refine P_iret dX1_gift_101 ?_
      exact ⟨by simp only [kGift, h87]; rfl, rfl, rfl⟩
    · refine P_iconst (pc' := 91) dX1_gift_90 rfl (v := 0) rfl ?_
      refine P_goto (tgt := 101) dX1_gift_91 rfl ?_
      refine P_iret dX1_gift_101 ?_
      exact ⟨by simp only [kGift, h87]; rfl, rfl, rfl⟩
def kWorth (k s : Int32) : Int32 :=
  if k = 1 then s + 6 else if k = 3 then 2 * (s + 6) else if k = 2 then 99 - s else if k = 4 then 99 - s - 8 else if k = 5 then 5 else s
theorem c_X1_worth {G : GX} {S : Shp} {I : Mem} {d : Nat} (k s : Int32) (hk : isK k) : PM G yX1_worth cX1_worth 2 (some .int) d 0 0 [.int k, .int s] S I (Rm S I (kWorth k s)) := by
  refine PM.of (ls := [some (.int k), some (.int s)]) (by decide) rfl (Nat.le_of_ble_eq_true rfl) rfl ?_
  show PW G RX1 "worth" _ _ _ _ _ _ _ _ _ _ _ _
  rcases hk with rfl | rfl | rfl | rfl | rfl | rfl
  · skip
    refine P_iload0 (pc' := 1) dX1_worth_0 rfl ?_
    refine P_tabOut (tgt := 63) dX1_worth_1 (by decide) rfl ?_
    refine P_iload1 (pc' := 64) dX1_worth_63 rfl ?_
    refine P_iret dX1_worth_64 ?_
    exact ⟨rfl, rfl, rfl⟩
  · skip
    refine P_iload0 (pc' := 1) dX1_worth_0 rfl ?_
    refine P_tabIn (tgt := 36) dX1_worth_1 (by decide) (by decide) rfl rfl ?_
    refine P_iload1 (pc' := 37) dX1_worth_36 rfl ?_
    refine P_bipush (pc' := 39) dX1_worth_37 rfl (v := 6) rfl ?_
    refine P_iadd (pc' := 40) dX1_worth_39 rfl ?_
    refine P_iret dX1_worth_40 ?_
    exact ⟨rfl, rfl, rfl⟩
  · skip
    refine P_iload0 (pc' := 1) dX1_worth_0 rfl ?_
    refine P_tabIn (tgt := 48) dX1_worth_1 (by decide) (by decide) rfl rfl ?_
    refine P_bipush (pc' := 50) dX1_worth_48 rfl (v := 99) rfl ?_
    refine P_iload1 (pc' := 51) dX1_worth_50 rfl ?_
    refine P_isub (pc' := 52) dX1_worth_51 rfl ?_
    refine P_iret dX1_worth_52 ?_
    exact ⟨rfl, rfl, rfl⟩
  · skip
    refine P_iload0 (pc' := 1) dX1_worth_0 rfl ?_
    refine P_tabIn (tgt := 41) dX1_worth_1 (by decide) (by decide) rfl rfl ?_
    refine P_iconst (pc' := 42) dX1_worth_41 rfl (v := 2) rfl ?_
    refine P_iload1 (pc' := 43) dX1_worth_42 rfl ?_
    refine P_bipush (pc' := 45) dX1_worth_43 rfl (v := 6) rfl ?_
    refine P_iadd (pc' := 46) dX1_worth_45 rfl ?_
    refine P_imul (pc' := 47) dX1_worth_46 rfl ?_
    refine P_iret dX1_worth_47 ?_
    exact ⟨rfl, rfl, rfl⟩
  · skip
    refine P_iload0 (pc' := 1) dX1_worth_0 rfl ?_
    refine P_tabIn (tgt := 53) dX1_worth_1 (by decide) (by decide) rfl rfl ?_
    refine P_bipush (pc' := 55) dX1_worth_53 rfl (v := 99) rfl ?_
    refine P_iload1 (pc' := 56) dX1_worth_55 rfl ?_
    refine P_isub (pc' := 57) dX1_worth_56 rfl ?_
    refine P_bipush (pc' := 59) dX1_worth_57 rfl (v := 8) rfl ?_
    refine P_isub (pc' := 60) dX1_worth_59 rfl ?_
    refine P_iret dX1_worth_60 ?_
    exact ⟨rfl, rfl, rfl⟩
  · skip
    refine P_iload0 (pc' := 1) dX1_worth_0 rfl ?_
    refine P_tabIn (tgt := 61) dX1_worth_1 (by decide) (by decide) rfl rfl ?_
    refine P_iconst (pc' := 62) dX1_worth_61 rfl (v := 5) rfl ?_
    refine P_iret dX1_worth_62 ?_
    exact ⟨rfl, rfl, rfl⟩
def abv (k : Nat) : Int32 := ([-1, 0, 0, 1, 2, 0] : List Int32).getD k 0
def ofF : Nat → Int32 → Int32 → Int32
  | 0, _, _ => 0
  | n + 1, k, o => if 0 ≤ k ∧ k ≤ 5 then (if k = o then 1 else ofF n (abv k.toNatClampNeg) o) else 0
theorem ofF_01 : ∀ n k o, ofF n k o = 0 ∨ ofF n k o = 1
  | 0, _, _ => Or.inl rfl
  | n + 1, k, o => by
    unfold ofF
    split
    · split
      · exact Or.inr rfl
      · exact ofF_01 n _ _
    · exact Or.inl rfl
theorem i_nonneg {x : Int32} (h : 0 ≤ x) : x = nI x.toNatClampNeg := by
  obtain ⟨j, hj, rfl⟩ := nI_of (Int32.not_lt.mpr h)
  rw [nI_clamp hj]
theorem i_le5 {x : Int32} (h : 0 ≤ x) (h5 : x ≤ 5) : x.toNatClampNeg < 6 := by
  obtain ⟨j, hj, rfl⟩ := nI_of2 (M := 5) (n := 5) (by decide) (Int32.not_lt.mpr h) h5
  rw [nI_clamp (by omega)]
  omega
theorem z9 {k a b : Int32} (h : ¬ (if a ≤ k ∧ k ≤ b then (1 : Int32) else 0) = 0) : a ≤ k ∧ k ≤ b := by
  by_cases q : a ≤ k ∧ k ≤ b
  · exact q
  · rw [if_neg q] at h; exact absurd rfl h
theorem z8 {k a b : Int32} (h : (if a ≤ k ∧ k ≤ b then (1 : Int32) else 0) = 0) : ¬ (a ≤ k ∧ k ≤ b) := by
  intro q
  rw [if_pos q] at h
  exact absurd h (by decide)
theorem lp_X1_isOf {G : GX} {S : Shp} {I : Mem} {d : Nat} {k0 o : Int32} {Q : Option Value → Shp → Mem → Prop} (hd : 1 ≤ d) : ∀ (n : Nat) (k : Int32), n ≤ 6 → Q (some (.int (ofF n k o))) S I → PW G RX1 "isOf" cX1_isOf 4 (some .boolean) d 0 0 Q 4 [some (.int k0), some (.int o), some (.int k), some (.int (nI (6 - n)))] [] S I := by
  intro n
  induction n with
  | zero =>
    intro k hn hQ
    refine P_iload3 (pc' := 5) dX1_isOf_4 rfl ?_
    refine P_above (pc' := 8) dX1_isOf_5 rfl fx_X1_7 ?_
    refine P_ablen (pc' := 9) dX1_isOf_8 rfl ?_
    refine P_icmp_ge (tgt := 45) (pc' := 12) dX1_isOf_9 rfl rfl (fun h9 => ?_) (fun h9 => ?_)
    · refine P_iconst (pc' := 46) dX1_isOf_45 rfl (v := 0) rfl ?_
      refine P_zret dX1_isOf_46 (by first | exact Or.inl rfl | exact Or.inr rfl) ?_
      exact hQ
    · exact absurd (by decide) h9
  | succ n ih =>
    intro k hn hQ
    have e6 : nI (6 - (n + 1)) + 1 = nI (6 - n) := by rw [nI_1]; congr 1; omega
    refine P_iload3 (pc' := 5) dX1_isOf_4 rfl ?_
    refine P_above (pc' := 8) dX1_isOf_5 rfl fx_X1_7 ?_
    refine P_ablen (pc' := 9) dX1_isOf_8 rfl ?_
    refine P_icmp_ge (tgt := 45) (pc' := 12) dX1_isOf_9 rfl rfl (fun h9 => ?_) (fun h9 => ?_)
    · exact absurd h9 (nI_ge (a := 6 - (n + 1)) (b := 6) (by omega) (by decide))
    · refine P_iload2 (pc' := 13) dX1_isOf_12 rfl ?_
      refine P_iconst (pc' := 14) dX1_isOf_13 rfl (v := 0) rfl ?_
      refine P_above (pc' := 17) dX1_isOf_14 rfl fx_X1_7 ?_
      refine P_ablen (pc' := 18) dX1_isOf_17 rfl ?_
      refine P_iconst (pc' := 19) dX1_isOf_18 rfl (v := 1) rfl ?_
      refine P_isub (pc' := 20) dX1_isOf_19 rfl ?_
      refine P_as (y := 5) (by decide) ?_
      refine P_callSN3 (pc' := 23) dX1_isOf_20 rfl lk_X1_13 (c_X8_within (d := 0) k 0 5) (by omega) (Nat.le_of_ble_eq_true rfl) (fun r S' I' hq => ?_)
      obtain ⟨rfl, rfl, rfl⟩ := hq
      refine P_if_eq (tgt := 45) (pc' := 26) dX1_isOf_23 rfl rfl (fun h23 => ?_) (fun h23 => ?_)
      · refine P_iconst (pc' := 46) dX1_isOf_45 rfl (v := 0) rfl ?_
        refine P_zret dX1_isOf_46 (by first | exact Or.inl rfl | exact Or.inr rfl) ?_
        have q : ofF (n + 1) k o = 0 := by unfold ofF; rw [if_neg (z8 h23)]
        rw [q] at hQ
        exact hQ
      · refine P_iload2 (pc' := 27) dX1_isOf_26 rfl ?_
        refine P_iload1 (pc' := 28) dX1_isOf_27 rfl ?_
        refine P_icmp_ne (tgt := 33) (pc' := 31) dX1_isOf_28 rfl rfl (fun h28 => ?_) (fun h28 => ?_)
        · refine P_above (pc' := 36) dX1_isOf_33 rfl fx_X1_7 ?_
          refine P_iload2 (pc' := 37) dX1_isOf_36 rfl ?_
          refine P_abld (pc' := 38) dX1_isOf_37 rfl (i_nonneg (z9 h23).1) (i_le5 (z9 h23).1 (z9 h23).2) ?_
          refine P_istore2 (pc' := 39) dX1_isOf_38 rfl (by decide) rfl ?_
          refine P_iinc3 (pc' := 42) dX1_isOf_39 rfl e6 (by decide) rfl ?_
          refine P_goto (tgt := 4) dX1_isOf_42 rfl ?_
          refine ih _ (by omega) ?_
          have q : ofF (n + 1) k o = ofF n (abv k.toNatClampNeg) o := by
            show (if 0 ≤ k ∧ k ≤ 5 then (if k = o then 1 else ofF n (abv k.toNatClampNeg) o) else 0) = _
            rw [if_pos (z9 h23), if_neg h28]
          rw [q] at hQ
          exact hQ
        · refine P_iconst (pc' := 32) dX1_isOf_31 rfl (v := 1) rfl ?_
          refine P_zret dX1_isOf_32 (by first | exact Or.inl rfl | exact Or.inr rfl) ?_
          have q : ofF (n + 1) k o = 1 := by unfold ofF; rw [if_pos (z9 h23), if_pos h28]
          rw [q] at hQ
          exact hQ
theorem c_X1_isOf {G : GX} {S : Shp} {I : Mem} {d : Nat} (k o : Int32) (hd : 1 ≤ d) : PM G yX1_isOf cX1_isOf 4 (some .boolean) d 0 0 [.int k, .int o] S I (Rm S I (ofF 6 k o)) := by
  refine PM.of (ls := [some (.int k), some (.int o), none, none]) (by decide) rfl (Nat.le_of_ble_eq_true rfl) rfl ?_
  show PW G RX1 "isOf" _ _ _ _ _ _ _ _ _ _ _ _
  refine P_iload0 (pc' := 1) dX1_isOf_0 rfl ?_
  refine P_istore2 (pc' := 2) dX1_isOf_1 rfl (by decide) rfl ?_
  refine P_iconst (pc' := 3) dX1_isOf_2 rfl (v := 0) rfl ?_
  refine P_istore3 (pc' := 4) dX1_isOf_3 rfl (by decide) rfl ?_
  exact lp_X1_isOf hd 6 k (by decide) ⟨rfl, rfl, rfl⟩

