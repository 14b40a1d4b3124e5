/-! ===== the reference's reading ===== -/
def BR (t b : Int32) : Prop := (0 ≤ b ∧ t = b) ∨ (b < 0 ∧ 127 < t)
theorem BR.rng {t b lo hi : Int32} (h : BR t b) (h0 : 0 ≤ lo) (h1 : hi ≤ 127) : (lo ≤ t ∧ t ≤ hi) ↔ (lo ≤ b ∧ b ≤ hi) := by
  rcases h with ⟨a, rfl⟩ | ⟨a, c⟩
  · exact Iff.rfl
  · rw [Int32.le_iff_toInt_le] at h0 h1
    rw [Int32.lt_iff_toInt_lt] at a c
    constructor
    · rintro ⟨-, z⟩
      rw [Int32.le_iff_toInt_le] at z
      omega
    · rintro ⟨z, -⟩
      rw [Int32.le_iff_toInt_le] at z
      omega
theorem BR.eq {t b c : Int32} (h : BR t b) (h0 : 0 ≤ c) (h1 : c ≤ 127) : t = c ↔ b = c := by
  have := h.rng (lo := c) (hi := c) h0 h1
  constructor
  · intro z
    subst z
    obtain ⟨a1, a2⟩ := this.mp ⟨Int32.le_refl _, Int32.le_refl _⟩
    exact Int32.le_antisymm a2 a1
  · intro z
    subst z
    obtain ⟨a1, a2⟩ := this.mpr ⟨Int32.le_refl _, Int32.le_refl _⟩
    exact Int32.le_antisymm a2 a1
theorem BR.pos {t b : Int32} (h : BR t b) (h0 : 0 ≤ b) : t = b := by
  rcases h with ⟨-, h⟩ | ⟨a, -⟩
  · exact h
  · exact absurd a (Int32.not_lt.mpr h0)
theorem BR.mk {t b : Int32} (h : t = b &&& 255) (h1 : -128 ≤ b) (h2 : b ≤ 127) : BR t b := by
  have e1 : (-128 : Int32).toInt = -128 := by decide
  have e2 : (127 : Int32).toInt = 127 := by decide
  have e0 : (0 : Int32).toInt = 0 := by decide
  rw [Int32.le_iff_toInt_le, e1] at h1
  rw [Int32.le_iff_toInt_le, e2] at h2
  have p1 : ∀ j, j < 128 → nI j &&& 255 = nI j := by decide +kernel
  have p2 : ∀ j, j < 128 → 127 < (-(nI (j + 1))) &&& 255 := by decide +kernel
  have p3 : ∀ j, j < 128 → (-(nI (j + 1))).toInt = -((j : Int) + 1) := by decide +kernel
  by_cases q : 0 ≤ b.toInt
  · refine Or.inl ⟨by rw [Int32.le_iff_toInt_le, e0]; exact q, ?_⟩
    have eb : b = nI b.toInt.toNat := toI_inj (by omega) (by omega)
    rw [h, eb]
    exact p1 _ (by omega)
  · refine Or.inr ⟨by rw [Int32.lt_iff_toInt_lt, e0]; omega, ?_⟩
    have eb : b = -(nI ((-b.toInt).toNat - 1 + 1)) := Int32.toInt_inj.mp (by rw [p3 _ (by omega)]; omega)
    rw [h, eb]
    exact p2 _ (by omega)
def BT (b : Nat → Int32) (J : Mem) : Prop := ∀ k, k < 96 → BR (J 60 k) (b k)
theorem sAt_l {b : Nat → Int32} {n p : Nat} (h : p < n) : sAt b n p = 1 ↔ (97 ≤ b p ∧ b p ≤ 122) := by
  constructor
  · exact sAt_1
  · intro z
    unfold sAt
    rw [if_neg (by omega), if_pos z]
theorem sAt_f {b : Nat → Int32} {n p : Nat} (h : p < n) : sAt b n p = 2 ↔ (48 ≤ b p ∧ b p ≤ 57) := by
  constructor
  · exact sAt_2
  · intro z
    unfold sAt
    rw [if_neg (by omega), if_neg (fun y => ?_), if_pos z]
    have e1 : (57 : Int32).toInt = 57 := by decide
    have e2 : (97 : Int32).toInt = 97 := by decide
    have y1 := Int32.le_iff_toInt_le.mp y.1
    have z1 := Int32.le_iff_toInt_le.mp z.2
    omega
theorem c_X9_isLetter {G : GX} {S : Shp} {I : Mem} {b : Nat → Int32} {d n p : Nat} (hsh : SHP S) (h6 : I 55 6 = nI n) (hb : BT b I) (hn : n ≤ 96) (hp : p ≤ n) : PM G yX9_isLetter cX9_isLetter 2 (some .boolean) d 0 0 [.ref 55, .int (nI p)] S I (Rm S I (if sAt b n p = 1 then 1 else 0)) := by
  refine PM.of (ls := [some (.ref 55), some (.int (nI p))]) (by decide) rfl (Nat.le_of_ble_eq_true rfl) rfl ?_
  show PW G RX9 "isLetter" _ _ _ _ _ _ _ _ _ _ _ _
  by_cases q : p < n
  · have key := ((hb p (by omega)).rng (lo := 97) (hi := 122) (by decide) (by decide)).trans (sAt_l q).symm
    refine P_iload1 (pc' := 1) dX9_isLetter_0 rfl ?_
    refine P_aload0 (pc' := 2) dX9_isLetter_1 rfl ?_
    refine P_geti (pc' := 5) dX9_isLetter_2 rfl fl_X9_179 rfl (l_55 hsh) (t_55 hsh) ?_
    refine P_as h6 ?_
    refine P_icmp_ge (tgt := 34) (pc' := 8) dX9_isLetter_5 rfl rfl (fun h5 => ?_) (fun h5 => ?_)
    · exact absurd h5 (nI_ge q (by omega))
    · refine P_aload0 (pc' := 9) dX9_isLetter_8 rfl ?_
      refine P_getr (pc' := 12) dX9_isLetter_9 rfl fl_X9_22 rfl (l_55 hsh) (t_55 hsh) (q_55_5 hsh) ?_
      refine P_iload1 (pc' := 13) dX9_isLetter_12 rfl ?_
      refine P_iald (pc' := 14) dX9_isLetter_13 rfl (l_60 hsh) (t_60 hsh) (j := p) rfl (by omega) (by decide) ?_
      refine P_bipush (pc' := 16) dX9_isLetter_14 rfl (v := 97) rfl ?_
      refine P_icmp_lt (tgt := 34) (pc' := 19) dX9_isLetter_16 rfl rfl (fun h16 => ?_) (fun h16 => ?_)
      · refine P_iconst (pc' := 35) dX9_isLetter_34 rfl (v := 0) rfl ?_
        refine P_zret dX9_isLetter_35 (by first | exact Or.inl rfl | exact Or.inr rfl) ?_
        first
          | (rw [if_pos (key.mp ⟨Int32.not_lt.mp h16, Int32.not_lt.mp h27⟩)]; exact ⟨rfl, rfl, rfl⟩)
          | (rw [if_neg (fun z => absurd (key.mpr z).1 (Int32.not_le.mpr h16))]; exact ⟨rfl, rfl, rfl⟩)
          | (rw [if_neg (fun z => absurd (key.mpr z).2 (Int32.not_le.mpr h27))]; exact ⟨rfl, rfl, rfl⟩)
      · refine P_aload0 (pc' := 20) dX9_isLetter_19 rfl ?_
        refine P_getr (pc' := 23) dX9_isLetter_20 rfl fl_X9_22 rfl (l_55 hsh) (t_55 hsh) (q_55_5 hsh) ?_
        refine P_iload1 (pc' := 24) dX9_isLetter_23 rfl ?_
        refine P_iald (pc' := 25) dX9_isLetter_24 rfl (l_60 hsh) (t_60 hsh) (j := p) rfl (by omega) (by decide) ?_
        refine P_bipush (pc' := 27) dX9_isLetter_25 rfl (v := 122) rfl ?_
        refine P_icmp_gt (tgt := 34) (pc' := 30) dX9_isLetter_27 rfl rfl (fun h27 => ?_) (fun h27 => ?_)
        · refine P_iconst (pc' := 35) dX9_isLetter_34 rfl (v := 0) rfl ?_
          refine P_zret dX9_isLetter_35 (by first | exact Or.inl rfl | exact Or.inr rfl) ?_
          first
            | (rw [if_pos (key.mp ⟨Int32.not_lt.mp h16, Int32.not_lt.mp h27⟩)]; exact ⟨rfl, rfl, rfl⟩)
            | (rw [if_neg (fun z => absurd (key.mpr z).1 (Int32.not_le.mpr h16))]; exact ⟨rfl, rfl, rfl⟩)
            | (rw [if_neg (fun z => absurd (key.mpr z).2 (Int32.not_le.mpr h27))]; exact ⟨rfl, rfl, rfl⟩)
        · refine P_iconst (pc' := 31) dX9_isLetter_30 rfl (v := 1) rfl ?_
          refine P_goto (tgt := 35) dX9_isLetter_31 rfl ?_
          refine P_zret dX9_isLetter_35 (by first | exact Or.inl rfl | exact Or.inr rfl) ?_
          first
            | (rw [if_pos (key.mp ⟨Int32.not_lt.mp h16, Int32.not_lt.mp h27⟩)]; exact ⟨rfl, rfl, rfl⟩)
            | (rw [if_neg (fun z => absurd (key.mpr z).1 (Int32.not_le.mpr h16))]; exact ⟨rfl, rfl, rfl⟩)
            | (rw [if_neg (fun z => absurd (key.mpr z).2 (Int32.not_le.mpr h27))]; exact ⟨rfl, rfl, rfl⟩)
  · rw [if_neg (by rw [sAt_0.mpr (by omega)]; decide)]
    refine P_iload1 (pc' := 1) dX9_isLetter_0 rfl ?_
    refine P_aload0 (pc' := 2) dX9_isLetter_1 rfl ?_
    refine P_geti (pc' := 5) dX9_isLetter_2 rfl fl_X9_179 rfl (l_55 hsh) (t_55 hsh) ?_
    refine P_as h6 ?_
    refine P_icmp_ge (tgt := 34) (pc' := 8) dX9_isLetter_5 rfl rfl (fun h5 => ?_) (fun h5 => ?_)
    · refine P_iconst (pc' := 35) dX9_isLetter_34 rfl (v := 0) rfl ?_
      refine P_zret dX9_isLetter_35 (by first | exact Or.inl rfl | exact Or.inr rfl) ?_
      exact ⟨rfl, rfl, rfl⟩
    · exact absurd (nI_le (by omega) (by omega)) h5
theorem c_X9_isFigure {G : GX} {S : Shp} {I : Mem} {b : Nat → Int32} {d n p : Nat} (hsh : SHP S) (h6 : I 55 6 = nI n) (hb : BT b I) (hn : n ≤ 96) (hp : p ≤ n) : PM G yX9_isFigure cX9_isFigure 2 (some .boolean) d 0 0 [.ref 55, .int (nI p)] S I (Rm S I (if sAt b n p = 2 then 1 else 0)) := by
  refine PM.of (ls := [some (.ref 55), some (.int (nI p))]) (by decide) rfl (Nat.le_of_ble_eq_true rfl) rfl ?_
  show PW G RX9 "isFigure" _ _ _ _ _ _ _ _ _ _ _ _
  by_cases q : p < n
  · have key := ((hb p (by omega)).rng (lo := 48) (hi := 57) (by decide) (by decide)).trans (sAt_f q).symm
    refine P_iload1 (pc' := 1) dX9_isFigure_0 rfl ?_
    refine P_aload0 (pc' := 2) dX9_isFigure_1 rfl ?_
    refine P_geti (pc' := 5) dX9_isFigure_2 rfl fl_X9_179 rfl (l_55 hsh) (t_55 hsh) ?_
    refine P_as h6 ?_
    refine P_icmp_ge (tgt := 34) (pc' := 8) dX9_isFigure_5 rfl rfl (fun h5 => ?_) (fun h5 => ?_)
    · exact absurd h5 (nI_ge q (by omega))
    · refine P_aload0 (pc' := 9) dX9_isFigure_8 rfl ?_
      refine P_getr (pc' := 12) dX9_isFigure_9 rfl fl_X9_22 rfl (l_55 hsh) (t_55 hsh) (q_55_5 hsh) ?_
      refine P_iload1 (pc' := 13) dX9_isFigure_12 rfl ?_
      refine P_iald (pc' := 14) dX9_isFigure_13 rfl (l_60 hsh) (t_60 hsh) (j := p) rfl (by omega) (by decide) ?_
      refine P_bipush (pc' := 16) dX9_isFigure_14 rfl (v := 48) rfl ?_
      refine P_icmp_lt (tgt := 34) (pc' := 19) dX9_isFigure_16 rfl rfl (fun h16 => ?_) (fun h16 => ?_)
      · refine P_iconst (pc' := 35) dX9_isFigure_34 rfl (v := 0) rfl ?_
        refine P_zret dX9_isFigure_35 (by first | exact Or.inl rfl | exact Or.inr rfl) ?_
        first
          | (rw [if_pos (key.mp ⟨Int32.not_lt.mp h16, Int32.not_lt.mp h27⟩)]; exact ⟨rfl, rfl, rfl⟩)
          | (rw [if_neg (fun z => absurd (key.mpr z).1 (Int32.not_le.mpr h16))]; exact ⟨rfl, rfl, rfl⟩)
          | (rw [if_neg (fun z => absurd (key.mpr z).2 (Int32.not_le.mpr h27))]; exact ⟨rfl, rfl, rfl⟩)
      · refine P_aload0 (pc' := 20) dX9_isFigure_19 rfl ?_
        refine P_getr (pc' := 23) dX9_isFigure_20 rfl fl_X9_22 rfl (l_55 hsh) (t_55 hsh) (q_55_5 hsh) ?_
        refine P_iload1 (pc' := 24) dX9_isFigure_23 rfl ?_
        refine P_iald (pc' := 25) dX9_isFigure_24 rfl (l_60 hsh) (t_60 hsh) (j := p) rfl (by omega) (by decide) ?_
        refine P_bipush (pc' := 27) dX9_isFigure_25 rfl (v := 57) rfl ?_
        refine P_icmp_gt (tgt := 34) (pc' := 30) dX9_isFigure_27 rfl rfl (fun h27 => ?_) (fun h27 => ?_)
        · refine P_iconst (pc' := 35) dX9_isFigure_34 rfl (v := 0) rfl ?_
          refine P_zret dX9_isFigure_35 (by first | exact Or.inl rfl | exact Or.inr rfl) ?_
          first
            | (rw [if_pos (key.mp ⟨Int32.not_lt.mp h16, Int32.not_lt.mp h27⟩)]; exact ⟨rfl, rfl, rfl⟩)
            | (rw [if_neg (fun z => absurd (key.mpr z).1 (Int32.not_le.mpr h16))]; exact ⟨rfl, rfl, rfl⟩)
            | (rw [if_neg (fun z => absurd (key.mpr z).2 (Int32.not_le.mpr h27))]; exact ⟨rfl, rfl, rfl⟩)
        · refine P_iconst (pc' := 31) dX9_isFigure_30 rfl (v := 1) rfl ?_
          refine P_goto (tgt := 35) dX9_isFigure_31 rfl ?_
          refine P_zret dX9_isFigure_35 (by first | exact Or.inl rfl | exact Or.inr rfl) ?_
          first
            | (rw [if_pos (key.mp ⟨Int32.not_lt.mp h16, Int32.not_lt.mp h27⟩)]; exact ⟨rfl, rfl, rfl⟩)
            | (rw [if_neg (fun z => absurd (key.mpr z).1 (Int32.not_le.mpr h16))]; exact ⟨rfl, rfl, rfl⟩)
            | (rw [if_neg (fun z => absurd (key.mpr z).2 (Int32.not_le.mpr h27))]; exact ⟨rfl, rfl, rfl⟩)
  · rw [if_neg (by rw [sAt_0.mpr (by omega)]; decide)]
    refine P_iload1 (pc' := 1) dX9_isFigure_0 rfl ?_
    refine P_aload0 (pc' := 2) dX9_isFigure_1 rfl ?_
    refine P_geti (pc' := 5) dX9_isFigure_2 rfl fl_X9_179 rfl (l_55 hsh) (t_55 hsh) ?_
    refine P_as h6 ?_
    refine P_icmp_ge (tgt := 34) (pc' := 8) dX9_isFigure_5 rfl rfl (fun h5 => ?_) (fun h5 => ?_)
    · refine P_iconst (pc' := 35) dX9_isFigure_34 rfl (v := 0) rfl ?_
      refine P_zret dX9_isFigure_35 (by first | exact Or.inl rfl | exact Or.inr rfl) ?_
      exact ⟨rfl, rfl, rfl⟩
    · exact absurd (nI_le (by omega) (by omega)) h5
theorem c_X9_rank {G : GX} {S : Shp} {I : Mem} {d : Nat} (k : Int32) : PM G yX9_rank cX9_rank 1 (some .int) d 0 0 [.int k] S I (Rm S I (nI (rk k))) := by
  refine PM.of (ls := [some (.int k)]) (by decide) rfl (Nat.le_of_ble_eq_true rfl) rfl ?_
  show PW G RX9 "rank" _ _ _ _ _ _ _ _ _ _ _ _
  unfold rk
  refine P_iload0 (pc' := 1) dX9_rank_0 rfl ?_
  refine P_iconst (pc' := 2) dX9_rank_1 rfl (v := (-1)) rfl ?_
  refine P_icmp_ne (tgt := 9) (pc' := 5) dX9_rank_2 rfl rfl (fun h2 => ?_) (fun h2 => ?_)
  · refine P_iload0 (pc' := 10) dX9_rank_9 rfl ?_
    refine P_bipush (pc' := 12) dX9_rank_10 rfl (v := (-2)) rfl ?_
    refine P_icmp_ne (tgt := 19) (pc' := 15) dX9_rank_12 rfl rfl (fun h12 => ?_) (fun h12 => ?_)
    · refine P_iload0 (pc' := 20) dX9_rank_19 rfl ?_
      refine P_bipush (pc' := 22) dX9_rank_20 rfl (v := (-5)) rfl ?_
      refine P_icmp_lt (tgt := 29) (pc' := 25) dX9_rank_22 rfl rfl (fun h22 => ?_) (fun h22 => ?_)
      · refine P_iload0 (pc' := 30) dX9_rank_29 rfl ?_
        refine P_bipush (pc' := 32) dX9_rank_30 rfl (v := (-7)) rfl ?_
        refine P_icmp_lt (tgt := 39) (pc' := 35) dX9_rank_32 rfl rfl (fun h32 => ?_) (fun h32 => ?_)
        · refine P_iload0 (pc' := 40) dX9_rank_39 rfl ?_
          refine P_bipush (pc' := 42) dX9_rank_40 rfl (v := (-9)) rfl ?_
          refine P_icmp_lt (tgt := 49) (pc' := 45) dX9_rank_42 rfl rfl (fun h42 => ?_) (fun h42 => ?_)
          · refine P_bipush (pc' := 51) dX9_rank_49 rfl (v := 6) rfl ?_
            refine P_iret dX9_rank_51 ?_
            first
              | (rw [if_pos h2]; exact ⟨rfl, rfl, rfl⟩)
              | (rw [if_neg h2, if_pos h12]; exact ⟨rfl, rfl, rfl⟩)
              | (rw [if_neg h2, if_neg h12, if_pos (Int32.not_lt.mp h22)]; exact ⟨rfl, rfl, rfl⟩)
              | (rw [if_neg h2, if_neg h12, if_neg (Int32.not_le.mpr h22), if_pos (Int32.not_lt.mp h32)]; exact ⟨rfl, rfl, rfl⟩)
              | (rw [if_neg h2, if_neg h12, if_neg (Int32.not_le.mpr h22), if_neg (Int32.not_le.mpr h32), if_pos (Int32.not_lt.mp h42)]; exact ⟨rfl, rfl, rfl⟩)
              | (rw [if_neg h2, if_neg h12, if_neg (Int32.not_le.mpr h22), if_neg (Int32.not_le.mpr h32), if_neg (Int32.not_le.mpr h42)]; exact ⟨rfl, rfl, rfl⟩)
          · refine P_iconst (pc' := 46) dX9_rank_45 rfl (v := 5) rfl ?_
            refine P_goto (tgt := 51) dX9_rank_46 rfl ?_
            refine P_iret dX9_rank_51 ?_
            first
              | (rw [if_pos h2]; exact ⟨rfl, rfl, rfl⟩)
              | (rw [if_neg h2, if_pos h12]; exact ⟨rfl, rfl, rfl⟩)
              | (rw [if_neg h2, if_neg h12, if_pos (Int32.not_lt.mp h22)]; exact ⟨rfl, rfl, rfl⟩)
              | (rw [if_neg h2, if_neg h12, if_neg (Int32.not_le.mpr h22), if_pos (Int32.not_lt.mp h32)]; exact ⟨rfl, rfl, rfl⟩)
              | (rw [if_neg h2, if_neg h12, if_neg (Int32.not_le.mpr h22), if_neg (Int32.not_le.mpr h32), if_pos (Int32.not_lt.mp h42)]; exact ⟨rfl, rfl, rfl⟩)
              | (rw [if_neg h2, if_neg h12, if_neg (Int32.not_le.mpr h22), if_neg (Int32.not_le.mpr h32), if_neg (Int32.not_le.mpr h42)]; exact ⟨rfl, rfl, rfl⟩)
        · refine P_iconst (pc' := 36) dX9_rank_35 rfl (v := 4) rfl ?_
          refine P_goto (tgt := 51) dX9_rank_36 rfl ?_
          refine P_iret dX9_rank_51 ?_
          first
            | (rw [if_pos h2]; exact ⟨rfl, rfl, rfl⟩)
            | (rw [if_neg h2, if_pos h12]; exact ⟨rfl, rfl, rfl⟩)
            | (rw [if_neg h2, if_neg h12, if_pos (Int32.not_lt.mp h22)]; exact ⟨rfl, rfl, rfl⟩)
            | (rw [if_neg h2, if_neg h12, if_neg (Int32.not_le.mpr h22), if_pos (Int32.not_lt.mp h32)]; exact ⟨rfl, rfl, rfl⟩)
            | (rw [if_neg h2, if_neg h12, if_neg (Int32.not_le.mpr h22), if_neg (Int32.not_le.mpr h32), if_pos (Int32.not_lt.mp h42)]; exact ⟨rfl, rfl, rfl⟩)
            | (rw [if_neg h2, if_neg h12, if_neg (Int32.not_le.mpr h22), if_neg (Int32.not_le.mpr h32), if_neg (Int32.not_le.mpr h42)]; exact ⟨rfl, rfl, rfl⟩)
      · refine P_iconst (pc' := 26) dX9_rank_25 rfl (v := 3) rfl ?_
        refine P_goto (tgt := 51) dX9_rank_26 rfl ?_
        refine P_iret dX9_rank_51 ?_
        first
          | (rw [if_pos h2]; exact ⟨rfl, rfl, rfl⟩)
          | (rw [if_neg h2, if_pos h12]; exact ⟨rfl, rfl, rfl⟩)
          | (rw [if_neg h2, if_neg h12, if_pos (Int32.not_lt.mp h22)]; exact ⟨rfl, rfl, rfl⟩)
          | (rw [if_neg h2, if_neg h12, if_neg (Int32.not_le.mpr h22), if_pos (Int32.not_lt.mp h32)]; exact ⟨rfl, rfl, rfl⟩)
          | (rw [if_neg h2, if_neg h12, if_neg (Int32.not_le.mpr h22), if_neg (Int32.not_le.mpr h32), if_pos (Int32.not_lt.mp h42)]; exact ⟨rfl, rfl, rfl⟩)
          | (rw [if_neg h2, if_neg h12, if_neg (Int32.not_le.mpr h22), if_neg (Int32.not_le.mpr h32), if_neg (Int32.not_le.mpr h42)]; exact ⟨rfl, rfl, rfl⟩)
    · refine P_iconst (pc' := 16) dX9_rank_15 rfl (v := 2) rfl ?_
      refine P_goto (tgt := 51) dX9_rank_16 rfl ?_
      refine P_iret dX9_rank_51 ?_
      first
        | (rw [if_pos h2]; exact ⟨rfl, rfl, rfl⟩)
        | (rw [if_neg h2, if_pos h12]; exact ⟨rfl, rfl, rfl⟩)
        | (rw [if_neg h2, if_neg h12, if_pos (Int32.not_lt.mp h22)]; exact ⟨rfl, rfl, rfl⟩)
        | (rw [if_neg h2, if_neg h12, if_neg (Int32.not_le.mpr h22), if_pos (Int32.not_lt.mp h32)]; exact ⟨rfl, rfl, rfl⟩)
        | (rw [if_neg h2, if_neg h12, if_neg (Int32.not_le.mpr h22), if_neg (Int32.not_le.mpr h32), if_pos (Int32.not_lt.mp h42)]; exact ⟨rfl, rfl, rfl⟩)
        | (rw [if_neg h2, if_neg h12, if_neg (Int32.not_le.mpr h22), if_neg (Int32.not_le.mpr h32), if_neg (Int32.not_le.mpr h42)]; exact ⟨rfl, rfl, rfl⟩)
  · refine P_iconst (pc' := 6) dX9_rank_5 rfl (v := 1) rfl ?_
    refine P_goto (tgt := 51) dX9_rank_6 rfl ?_
    refine P_iret dX9_rank_51 ?_
    first
      | (rw [if_pos h2]; exact ⟨rfl, rfl, rfl⟩)
      | (rw [if_neg h2, if_pos h12]; exact ⟨rfl, rfl, rfl⟩)
      | (rw [if_neg h2, if_neg h12, if_pos (Int32.not_lt.mp h22)]; exact ⟨rfl, rfl, rfl⟩)
      | (rw [if_neg h2, if_neg h12, if_neg (Int32.not_le.mpr h22), if_pos (Int32.not_lt.mp h32)]; exact ⟨rfl, rfl, rfl⟩)
      | (rw [if_neg h2, if_neg h12, if_neg (Int32.not_le.mpr h22), if_neg (Int32.not_le.mpr h32), if_pos (Int32.not_lt.mp h42)]; exact ⟨rfl, rfl, rfl⟩)
      | (rw [if_neg h2, if_neg h12, if_neg (Int32.not_le.mpr h22), if_neg (Int32.not_le.mpr h32), if_neg (Int32.not_le.mpr h42)]; exact ⟨rfl, rfl, rfl⟩)
theorem c_X9_nameOf {G : GX} {S : Shp} {I : Mem} {d key : Nat} {v : Int32} (hsh : SHP S) (hk : I 55 12 = nI key) (h2 : key ≤ 2) : PM G yX9_nameOf cX9_nameOf 2 (some .int) d 0 0 [.ref 55, .int v] S I (Rm S I (lvV (nmO key v))) := by
  refine PM.of (ls := [some (.ref 55), some (.int v)]) (by decide) rfl (Nat.le_of_ble_eq_true rfl) rfl ?_
  show PW G RX9 "nameOf" _ _ _ _ _ _ _ _ _ _ _ _
  have kk : key = 0 ∨ key = 1 ∨ key = 2 := by omega
  rcases kk with rfl | rfl | rfl
  · unfold nmO
    rw [if_pos rfl]
    refine P_aload0 (pc' := 1) dX9_nameOf_0 rfl ?_
    refine P_geti (pc' := 4) dX9_nameOf_1 rfl fl_X9_204 rfl (l_55 hsh) (t_55 hsh) ?_
    refine P_as (y := 0) hk ?_
    refine P_look (tgt := 32) dX9_nameOf_4 (by decide) rfl rfl ?_
    refine P_iload1 (pc' := 33) dX9_nameOf_32 rfl ?_
    refine P_bipush (pc' := 35) dX9_nameOf_33 rfl (v := 99) rfl ?_
    refine P_icmp_ne (tgt := 42) (pc' := 38) dX9_nameOf_35 rfl rfl (fun h35 => ?_) (fun h35 => ?_)
    · refine P_iload1 (pc' := 43) dX9_nameOf_42 rfl ?_
      refine P_bipush (pc' := 45) dX9_nameOf_43 rfl (v := 103) rfl ?_
      refine P_icmp_ne (tgt := 52) (pc' := 48) dX9_nameOf_45 rfl rfl (fun h45 => ?_) (fun h45 => ?_)
      · refine P_iload1 (pc' := 53) dX9_nameOf_52 rfl ?_
        refine P_bipush (pc' := 55) dX9_nameOf_53 rfl (v := 115) rfl ?_
        refine P_icmp_ne (tgt := 62) (pc' := 58) dX9_nameOf_55 rfl rfl (fun h55 => ?_) (fun h55 => ?_)
        · refine P_iconst (pc' := 63) dX9_nameOf_62 rfl (v := (-1)) rfl ?_
          refine P_iret dX9_nameOf_63 ?_
          first
            | (rw [if_pos h35]; exact ⟨rfl, rfl, rfl⟩)
            | (rw [if_neg h35, if_pos h45]; exact ⟨rfl, rfl, rfl⟩)
            | (rw [if_neg h35, if_neg h45, if_pos h55]; exact ⟨rfl, rfl, rfl⟩)
            | (rw [if_neg h35, if_neg h45, if_neg h55]; exact ⟨rfl, rfl, rfl⟩)
        · refine P_iconst (pc' := 59) dX9_nameOf_58 rfl (v := 2) rfl ?_
          refine P_goto (tgt := 63) dX9_nameOf_59 rfl ?_
          refine P_iret dX9_nameOf_63 ?_
          first
            | (rw [if_pos h35]; exact ⟨rfl, rfl, rfl⟩)
            | (rw [if_neg h35, if_pos h45]; exact ⟨rfl, rfl, rfl⟩)
            | (rw [if_neg h35, if_neg h45, if_pos h55]; exact ⟨rfl, rfl, rfl⟩)
            | (rw [if_neg h35, if_neg h45, if_neg h55]; exact ⟨rfl, rfl, rfl⟩)
      · refine P_iconst (pc' := 49) dX9_nameOf_48 rfl (v := 1) rfl ?_
        refine P_goto (tgt := 63) dX9_nameOf_49 rfl ?_
        refine P_iret dX9_nameOf_63 ?_
        first
          | (rw [if_pos h35]; exact ⟨rfl, rfl, rfl⟩)
          | (rw [if_neg h35, if_pos h45]; exact ⟨rfl, rfl, rfl⟩)
          | (rw [if_neg h35, if_neg h45, if_pos h55]; exact ⟨rfl, rfl, rfl⟩)
          | (rw [if_neg h35, if_neg h45, if_neg h55]; exact ⟨rfl, rfl, rfl⟩)
    · refine P_iconst (pc' := 39) dX9_nameOf_38 rfl (v := 0) rfl ?_
      refine P_goto (tgt := 63) dX9_nameOf_39 rfl ?_
      refine P_iret dX9_nameOf_63 ?_
      first
        | (rw [if_pos h35]; exact ⟨rfl, rfl, rfl⟩)
        | (rw [if_neg h35, if_pos h45]; exact ⟨rfl, rfl, rfl⟩)
        | (rw [if_neg h35, if_neg h45, if_pos h55]; exact ⟨rfl, rfl, rfl⟩)
        | (rw [if_neg h35, if_neg h45, if_neg h55]; exact ⟨rfl, rfl, rfl⟩)
  · unfold nmO
    rw [if_neg (by decide), if_pos rfl]
    refine P_aload0 (pc' := 1) dX9_nameOf_0 rfl ?_
    refine P_geti (pc' := 4) dX9_nameOf_1 rfl fl_X9_204 rfl (l_55 hsh) (t_55 hsh) ?_
    refine P_as (y := 1) hk ?_
    refine P_look (tgt := 64) dX9_nameOf_4 (by decide) rfl rfl ?_
    refine P_iload1 (pc' := 65) dX9_nameOf_64 rfl ?_
    refine P_bipush (pc' := 67) dX9_nameOf_65 rfl (v := 99) rfl ?_
    refine P_icmp_ne (tgt := 74) (pc' := 70) dX9_nameOf_67 rfl rfl (fun h67 => ?_) (fun h67 => ?_)
    · refine P_iload1 (pc' := 75) dX9_nameOf_74 rfl ?_
      refine P_bipush (pc' := 77) dX9_nameOf_75 rfl (v := 104) rfl ?_
      refine P_icmp_ne (tgt := 84) (pc' := 80) dX9_nameOf_77 rfl rfl (fun h77 => ?_) (fun h77 => ?_)
      · refine P_iconst (pc' := 85) dX9_nameOf_84 rfl (v := (-1)) rfl ?_
        refine P_iret dX9_nameOf_85 ?_
        first
          | (rw [if_pos h67]; exact ⟨rfl, rfl, rfl⟩)
          | (rw [if_neg h67, if_pos h77]; exact ⟨rfl, rfl, rfl⟩)
          | (rw [if_neg h67, if_neg h77]; exact ⟨rfl, rfl, rfl⟩)
      · refine P_iconst (pc' := 81) dX9_nameOf_80 rfl (v := 1) rfl ?_
        refine P_goto (tgt := 85) dX9_nameOf_81 rfl ?_
        refine P_iret dX9_nameOf_85 ?_
        first
          | (rw [if_pos h67]; exact ⟨rfl, rfl, rfl⟩)
          | (rw [if_neg h67, if_pos h77]; exact ⟨rfl, rfl, rfl⟩)
          | (rw [if_neg h67, if_neg h77]; exact ⟨rfl, rfl, rfl⟩)
    · refine P_iconst (pc' := 71) dX9_nameOf_70 rfl (v := 0) rfl ?_
      refine P_goto (tgt := 85) dX9_nameOf_71 rfl ?_
      refine P_iret dX9_nameOf_85 ?_
      first
        | (rw [if_pos h67]; exact ⟨rfl, rfl, rfl⟩)
        | (rw [if_neg h67, if_pos h77]; exact ⟨rfl, rfl, rfl⟩)
        | (rw [if_neg h67, if_neg h77]; exact ⟨rfl, rfl, rfl⟩)
  · unfold nmO
    rw [if_neg (by decide), if_neg (by decide)]
    refine P_aload0 (pc' := 1) dX9_nameOf_0 rfl ?_
    refine P_geti (pc' := 4) dX9_nameOf_1 rfl fl_X9_204 rfl (l_55 hsh) (t_55 hsh) ?_
    refine P_as (y := 2) hk ?_
    refine P_look (tgt := 86) dX9_nameOf_4 (by decide) rfl rfl ?_
    refine P_iload1 (pc' := 87) dX9_nameOf_86 rfl ?_
    refine P_bipush (pc' := 89) dX9_nameOf_87 rfl (v := 112) rfl ?_
    refine P_icmp_ne (tgt := 96) (pc' := 92) dX9_nameOf_89 rfl rfl (fun h89 => ?_) (fun h89 => ?_)
    · refine P_iload1 (pc' := 97) dX9_nameOf_96 rfl ?_
      refine P_bipush (pc' := 99) dX9_nameOf_97 rfl (v := 104) rfl ?_
      refine P_icmp_ne (tgt := 106) (pc' := 102) dX9_nameOf_99 rfl rfl (fun h99 => ?_) (fun h99 => ?_)
      · refine P_iconst (pc' := 107) dX9_nameOf_106 rfl (v := (-1)) rfl ?_
        refine P_iret dX9_nameOf_107 ?_
        first
          | (rw [if_pos h89]; exact ⟨rfl, rfl, rfl⟩)
          | (rw [if_neg h89, if_pos h99]; exact ⟨rfl, rfl, rfl⟩)
          | (rw [if_neg h89, if_neg h99]; exact ⟨rfl, rfl, rfl⟩)
      · refine P_iconst (pc' := 103) dX9_nameOf_102 rfl (v := 1) rfl ?_
        refine P_goto (tgt := 107) dX9_nameOf_103 rfl ?_
        refine P_iret dX9_nameOf_107 ?_
        first
          | (rw [if_pos h89]; exact ⟨rfl, rfl, rfl⟩)
          | (rw [if_neg h89, if_pos h99]; exact ⟨rfl, rfl, rfl⟩)
          | (rw [if_neg h89, if_neg h99]; exact ⟨rfl, rfl, rfl⟩)
    · refine P_iconst (pc' := 93) dX9_nameOf_92 rfl (v := 0) rfl ?_
      refine P_goto (tgt := 107) dX9_nameOf_93 rfl ?_
      refine P_iret dX9_nameOf_107 ?_
      first
        | (rw [if_pos h89]; exact ⟨rfl, rfl, rfl⟩)
        | (rw [if_neg h89, if_pos h99]; exact ⟨rfl, rfl, rfl⟩)
        | (rw [if_neg h89, if_neg h99]; exact ⟨rfl, rfl, rfl⟩)
theorem off_sg {v : Int32} (h : ∀ c ∈ ([38, 42, 43, 45, 47, 60, 61, 62, 124] : List Int32), v ≠ c) : Op.lookupswitch.offset [(38, 84), (42, 102), (43, 96), (45, 99), (47, 105), (60, 87), (61, 90), (62, 93), (124, 82)] 108 v.toInt = 108 := by
  have ne : ∀ c ∈ ([38, 42, 43, 45, 47, 60, 61, 62, 124] : List Int32), ¬ c.toInt = v.toInt := fun c hc z => h c hc (Int32.toInt_inj.mp z.symm)
  show (if 38 = v.toInt then _ else if 42 = v.toInt then _ else if 43 = v.toInt then _ else if 45 = v.toInt then _ else if 47 = v.toInt then _ else if 60 = v.toInt then _ else if 61 = v.toInt then _ else if 62 = v.toInt then _ else if 124 = v.toInt then _ else (108 : Int)) = 108
  rw [if_neg (show ¬ (38 : Int) = v.toInt from ne 38 (by decide)), if_neg (show ¬ (42 : Int) = v.toInt from ne 42 (by decide)), if_neg (show ¬ (43 : Int) = v.toInt from ne 43 (by decide)), if_neg (show ¬ (45 : Int) = v.toInt from ne 45 (by decide)), if_neg (show ¬ (47 : Int) = v.toInt from ne 47 (by decide)), if_neg (show ¬ (60 : Int) = v.toInt from ne 60 (by decide)), if_neg (show ¬ (61 : Int) = v.toInt from ne 61 (by decide)), if_neg (show ¬ (62 : Int) = v.toInt from ne 62 (by decide)), if_neg (show ¬ (124 : Int) = v.toInt from ne 124 (by decide))]
theorem c_X9_signHere {G : GX} {S : Shp} {I : Mem} {d tk : Nat} (hsh : SHP S) (h9 : I 55 9 = nI tk) (h4 : tk ≤ 4) : PM G yX9_signHere cX9_signHere 1 (some .int) d 0 0 [.ref 55] S I (Rm S I (if tk = 3 then (sgO (I 55 10)).getD 0 else 0)) := by
  refine PM.of (ls := [some (.ref 55)]) (by decide) rfl (Nat.le_of_ble_eq_true rfl) rfl ?_
  show PW G RX9 "signHere" _ _ _ _ _ _ _ _ _ _ _ _
  by_cases q : tk = 3
  · rw [if_pos q]
    have h9 : I 55 9 = 3 := by rw [h9, q]; rfl
    unfold sgO
    by_cases g124 : I 55 10 = 124
    · rw [if_pos g124]
      refine P_aload0 (pc' := 1) dX9_signHere_0 rfl ?_
      refine P_geti (pc' := 4) dX9_signHere_1 rfl fl_X9_192 rfl (l_55 hsh) (t_55 hsh) ?_
      refine P_as h9 ?_
      refine P_iconst (pc' := 5) dX9_signHere_4 rfl (v := 3) rfl ?_
      refine P_icmp_eq (tgt := 10) (pc' := 8) dX9_signHere_5 rfl rfl (fun h5 => ?_) (fun h5 => ?_)
      · refine P_aload0 (pc' := 11) dX9_signHere_10 rfl ?_
        refine P_geti (pc' := 14) dX9_signHere_11 rfl fl_X9_198 rfl (l_55 hsh) (t_55 hsh) ?_
        refine P_as g124 ?_
        refine P_look (tgt := 96) dX9_signHere_14 (by decide) rfl rfl ?_
        refine P_iconst (pc' := 97) dX9_signHere_96 rfl (v := (-1)) rfl ?_
        refine P_iret dX9_signHere_97 ?_
        exact ⟨rfl, rfl, rfl⟩
      · exact absurd rfl h5
    by_cases g38 : I 55 10 = 38
    · rw [if_neg g124, if_pos g38]
      refine P_aload0 (pc' := 1) dX9_signHere_0 rfl ?_
      refine P_geti (pc' := 4) dX9_signHere_1 rfl fl_X9_192 rfl (l_55 hsh) (t_55 hsh) ?_
      refine P_as h9 ?_
      refine P_iconst (pc' := 5) dX9_signHere_4 rfl (v := 3) rfl ?_
      refine P_icmp_eq (tgt := 10) (pc' := 8) dX9_signHere_5 rfl rfl (fun h5 => ?_) (fun h5 => ?_)
      · refine P_aload0 (pc' := 11) dX9_signHere_10 rfl ?_
        refine P_geti (pc' := 14) dX9_signHere_11 rfl fl_X9_198 rfl (l_55 hsh) (t_55 hsh) ?_
        refine P_as g38 ?_
        refine P_look (tgt := 98) dX9_signHere_14 (by decide) rfl rfl ?_
        refine P_bipush (pc' := 100) dX9_signHere_98 rfl (v := (-2)) rfl ?_
        refine P_iret dX9_signHere_100 ?_
        exact ⟨rfl, rfl, rfl⟩
      · exact absurd rfl h5
    by_cases g60 : I 55 10 = 60
    · rw [if_neg g124, if_neg g38, if_pos g60]
      refine P_aload0 (pc' := 1) dX9_signHere_0 rfl ?_
      refine P_geti (pc' := 4) dX9_signHere_1 rfl fl_X9_192 rfl (l_55 hsh) (t_55 hsh) ?_
      refine P_as h9 ?_
      refine P_iconst (pc' := 5) dX9_signHere_4 rfl (v := 3) rfl ?_
      refine P_icmp_eq (tgt := 10) (pc' := 8) dX9_signHere_5 rfl rfl (fun h5 => ?_) (fun h5 => ?_)
      · refine P_aload0 (pc' := 11) dX9_signHere_10 rfl ?_
        refine P_geti (pc' := 14) dX9_signHere_11 rfl fl_X9_198 rfl (l_55 hsh) (t_55 hsh) ?_
        refine P_as g60 ?_
        refine P_look (tgt := 101) dX9_signHere_14 (by decide) rfl rfl ?_
        refine P_bipush (pc' := 103) dX9_signHere_101 rfl (v := (-3)) rfl ?_
        refine P_iret dX9_signHere_103 ?_
        exact ⟨rfl, rfl, rfl⟩
      · exact absurd rfl h5
    by_cases g61 : I 55 10 = 61
    · rw [if_neg g124, if_neg g38, if_neg g60, if_pos g61]
      refine P_aload0 (pc' := 1) dX9_signHere_0 rfl ?_
      refine P_geti (pc' := 4) dX9_signHere_1 rfl fl_X9_192 rfl (l_55 hsh) (t_55 hsh) ?_
      refine P_as h9 ?_
      refine P_iconst (pc' := 5) dX9_signHere_4 rfl (v := 3) rfl ?_
      refine P_icmp_eq (tgt := 10) (pc' := 8) dX9_signHere_5 rfl rfl (fun h5 => ?_) (fun h5 => ?_)
      · refine P_aload0 (pc' := 11) dX9_signHere_10 rfl ?_
        refine P_geti (pc' := 14) dX9_signHere_11 rfl fl_X9_198 rfl (l_55 hsh) (t_55 hsh) ?_
        refine P_as g61 ?_
        refine P_look (tgt := 104) dX9_signHere_14 (by decide) rfl rfl ?_
        refine P_bipush (pc' := 106) dX9_signHere_104 rfl (v := (-4)) rfl ?_
        refine P_iret dX9_signHere_106 ?_
        exact ⟨rfl, rfl, rfl⟩
      · exact absurd rfl h5
    by_cases g62 : I 55 10 = 62
    · rw [if_neg g124, if_neg g38, if_neg g60, if_neg g61, if_pos g62]
      refine P_aload0 (pc' := 1) dX9_signHere_0 rfl ?_
      refine P_geti (pc' := 4) dX9_signHere_1 rfl fl_X9_192 rfl (l_55 hsh) (t_55 hsh) ?_
      refine P_as h9 ?_
      refine P_iconst (pc' := 5) dX9_signHere_4 rfl (v := 3) rfl ?_
      refine P_icmp_eq (tgt := 10) (pc' := 8) dX9_signHere_5 rfl rfl (fun h5 => ?_) (fun h5 => ?_)
      · refine P_aload0 (pc' := 11) dX9_signHere_10 rfl ?_
        refine P_geti (pc' := 14) dX9_signHere_11 rfl fl_X9_198 rfl (l_55 hsh) (t_55 hsh) ?_
        refine P_as g62 ?_
        refine P_look (tgt := 107) dX9_signHere_14 (by decide) rfl rfl ?_
        refine P_bipush (pc' := 109) dX9_signHere_107 rfl (v := (-5)) rfl ?_
        refine P_iret dX9_signHere_109 ?_
        exact ⟨rfl, rfl, rfl⟩
      · exact absurd rfl h5
    by_cases g43 : I 55 10 = 43
    · rw [if_neg g124, if_neg g38, if_neg g60, if_neg g61, if_neg g62, if_pos g43]
      refine P_aload0 (pc' := 1) dX9_signHere_0 rfl ?_
      refine P_geti (pc' := 4) dX9_signHere_1 rfl fl_X9_192 rfl (l_55 hsh) (t_55 hsh) ?_
      refine P_as h9 ?_
      refine P_iconst (pc' := 5) dX9_signHere_4 rfl (v := 3) rfl ?_
      refine P_icmp_eq (tgt := 10) (pc' := 8) dX9_signHere_5 rfl rfl (fun h5 => ?_) (fun h5 => ?_)
      · refine P_aload0 (pc' := 11) dX9_signHere_10 rfl ?_
        refine P_geti (pc' := 14) dX9_signHere_11 rfl fl_X9_198 rfl (l_55 hsh) (t_55 hsh) ?_
        refine P_as g43 ?_
        refine P_look (tgt := 110) dX9_signHere_14 (by decide) rfl rfl ?_
        refine P_bipush (pc' := 112) dX9_signHere_110 rfl (v := (-6)) rfl ?_
        refine P_iret dX9_signHere_112 ?_
        exact ⟨rfl, rfl, rfl⟩
      · exact absurd rfl h5
    by_cases g45 : I 55 10 = 45
    · rw [if_neg g124, if_neg g38, if_neg g60, if_neg g61, if_neg g62, if_neg g43, if_pos g45]
      refine P_aload0 (pc' := 1) dX9_signHere_0 rfl ?_
      refine P_geti (pc' := 4) dX9_signHere_1 rfl fl_X9_192 rfl (l_55 hsh) (t_55 hsh) ?_
      refine P_as h9 ?_
      refine P_iconst (pc' := 5) dX9_signHere_4 rfl (v := 3) rfl ?_
      refine P_icmp_eq (tgt := 10) (pc' := 8) dX9_signHere_5 rfl rfl (fun h5 => ?_) (fun h5 => ?_)
      · refine P_aload0 (pc' := 11) dX9_signHere_10 rfl ?_
        refine P_geti (pc' := 14) dX9_signHere_11 rfl fl_X9_198 rfl (l_55 hsh) (t_55 hsh) ?_
        refine P_as g45 ?_
        refine P_look (tgt := 113) dX9_signHere_14 (by decide) rfl rfl ?_
        refine P_bipush (pc' := 115) dX9_signHere_113 rfl (v := (-7)) rfl ?_
        refine P_iret dX9_signHere_115 ?_
        exact ⟨rfl, rfl, rfl⟩
      · exact absurd rfl h5
    by_cases g42 : I 55 10 = 42
    · rw [if_neg g124, if_neg g38, if_neg g60, if_neg g61, if_neg g62, if_neg g43, if_neg g45, if_pos g42]
      refine P_aload0 (pc' := 1) dX9_signHere_0 rfl ?_
      refine P_geti (pc' := 4) dX9_signHere_1 rfl fl_X9_192 rfl (l_55 hsh) (t_55 hsh) ?_
      refine P_as h9 ?_
      refine P_iconst (pc' := 5) dX9_signHere_4 rfl (v := 3) rfl ?_
      refine P_icmp_eq (tgt := 10) (pc' := 8) dX9_signHere_5 rfl rfl (fun h5 => ?_) (fun h5 => ?_)
      · refine P_aload0 (pc' := 11) dX9_signHere_10 rfl ?_
        refine P_geti (pc' := 14) dX9_signHere_11 rfl fl_X9_198 rfl (l_55 hsh) (t_55 hsh) ?_
        refine P_as g42 ?_
        refine P_look (tgt := 116) dX9_signHere_14 (by decide) rfl rfl ?_
        refine P_bipush (pc' := 118) dX9_signHere_116 rfl (v := (-8)) rfl ?_
        refine P_iret dX9_signHere_118 ?_
        exact ⟨rfl, rfl, rfl⟩
      · exact absurd rfl h5
    by_cases g47 : I 55 10 = 47
    · rw [if_neg g124, if_neg g38, if_neg g60, if_neg g61, if_neg g62, if_neg g43, if_neg g45, if_neg g42, if_pos g47]
      refine P_aload0 (pc' := 1) dX9_signHere_0 rfl ?_
      refine P_geti (pc' := 4) dX9_signHere_1 rfl fl_X9_192 rfl (l_55 hsh) (t_55 hsh) ?_
      refine P_as h9 ?_
      refine P_iconst (pc' := 5) dX9_signHere_4 rfl (v := 3) rfl ?_
      refine P_icmp_eq (tgt := 10) (pc' := 8) dX9_signHere_5 rfl rfl (fun h5 => ?_) (fun h5 => ?_)
      · refine P_aload0 (pc' := 11) dX9_signHere_10 rfl ?_
        refine P_geti (pc' := 14) dX9_signHere_11 rfl fl_X9_198 rfl (l_55 hsh) (t_55 hsh) ?_
        refine P_as g47 ?_
        refine P_look (tgt := 119) dX9_signHere_14 (by decide) rfl rfl ?_
        refine P_bipush (pc' := 121) dX9_signHere_119 rfl (v := (-9)) rfl ?_
        refine P_iret dX9_signHere_121 ?_
        exact ⟨rfl, rfl, rfl⟩
      · exact absurd rfl h5
    rw [if_neg g124, if_neg g38, if_neg g60, if_neg g61, if_neg g62, if_neg g43, if_neg g45, if_neg g42, if_neg g47]
    refine P_aload0 (pc' := 1) dX9_signHere_0 rfl ?_
    refine P_geti (pc' := 4) dX9_signHere_1 rfl fl_X9_192 rfl (l_55 hsh) (t_55 hsh) ?_
    refine P_as h9 ?_
    refine P_iconst (pc' := 5) dX9_signHere_4 rfl (v := 3) rfl ?_
    refine P_icmp_eq (tgt := 10) (pc' := 8) dX9_signHere_5 rfl rfl (fun h5 => ?_) (fun h5 => ?_)
    · refine P_aload0 (pc' := 11) dX9_signHere_10 rfl ?_
      refine P_geti (pc' := 14) dX9_signHere_11 rfl fl_X9_198 rfl (l_55 hsh) (t_55 hsh) ?_
      refine P_look (tgt := 122) dX9_signHere_14 (by decide) (off_sg (by simp only [List.forall_mem_cons]; exact ⟨g38, g42, g43, g45, g47, g60, g61, g62, g124, fun _ z => absurd z List.not_mem_nil⟩)) rfl ?_
      refine P_iconst (pc' := 123) dX9_signHere_122 rfl (v := 0) rfl ?_
      refine P_iret dX9_signHere_123 ?_
      exact ⟨rfl, rfl, rfl⟩
    · exact absurd rfl h5
  · rw [if_neg q]
    refine P_aload0 (pc' := 1) dX9_signHere_0 rfl ?_
    refine P_geti (pc' := 4) dX9_signHere_1 rfl fl_X9_192 rfl (l_55 hsh) (t_55 hsh) ?_
    refine P_as h9 ?_
    refine P_iconst (pc' := 5) dX9_signHere_4 rfl (v := 3) rfl ?_
    refine P_icmp_eq (tgt := 10) (pc' := 8) dX9_signHere_5 rfl rfl (fun h5 => ?_) (fun h5 => ?_)
    · exact absurd ((nI_eq (b := 3) (by omega) (by decide)).mp h5) q
    · refine P_iconst (pc' := 9) dX9_signHere_8 rfl (v := 0) rfl ?_
      refine P_iret dX9_signHere_9 ?_
      exact ⟨rfl, rfl, rfl⟩
theorem BR.sg {t b : Int32} (h : BR t b) : sgO t = sgO b := by
  unfold sgO
  simp only [h.eq (c := 124) (by decide) (by decide), h.eq (c := 38) (by decide) (by decide), h.eq (c := 60) (by decide) (by decide), h.eq (c := 61) (by decide) (by decide), h.eq (c := 62) (by decide) (by decide), h.eq (c := 43) (by decide) (by decide), h.eq (c := 45) (by decide) (by decide), h.eq (c := 42) (by decide) (by decide), h.eq (c := 47) (by decide) (by decide)]

