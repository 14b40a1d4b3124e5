/-! private methods of the class -/
theorem sw_c (v : Int32) (n : Nat) : (∃ j, j ≤ n ∧ v = nI j) ∨ (v.toInt < 0 ∨ (n : Int) < v.toInt) := by
  by_cases h : v.toInt < 0
  · exact Or.inr (Or.inl h)
  · by_cases h2 : (n : Int) < v.toInt
    · exact Or.inr (Or.inr h2)
    · refine Or.inl ⟨v.toNatClampNeg, ?_, i_nonneg (Int32.le_iff_toInt_le.mpr (by simpa using h))⟩
      have : v.toNatClampNeg = v.toInt.toNat := rfl
      omega
theorem c_X8_wi {G : GX} {S : Shp} {I : Mem} {d : Nat} (v lo hi : Int32) : PM G yX8_within cX8_within 3 (some .boolean) d 0 0 [.int v, .int lo, .int hi] S I (Rm S I (wi v lo hi)) := c_X8_within v lo hi
theorem c_X8_isBeggar {G : GX} {S : Shp} {I : Mem} {d n : Nat} (v : Int32) (hsh : SHP S) (hz : I 1 6 = nI n) (hd : 1 ≤ d) : PM G yX8_isBeggar cX8_isBeggar 2 (some .boolean) d 0 0 [.ref 0, .int v] S I (Rm S I (wi v 0 (nI n - 1))) := by
  refine PM.of (ls := [some (.ref 0), some (.int v)]) (by decide) rfl (Nat.le_of_ble_eq_true rfl) rfl ?_
  show PW G RX8 "isBeggar" _ _ _ _ _ _ _ _ _ _ _ _
  refine P_iload1 (pc' := 1) dX8_isBeggar_0 rfl ?_
  refine P_iconst (pc' := 2) dX8_isBeggar_1 rfl (v := 0) rfl ?_
  refine P_aload0 (pc' := 3) dX8_isBeggar_2 rfl ?_
  refine P_getr (pc' := 6) dX8_isBeggar_3 rfl fl_X8_10 rfl (l_0 hsh) (t_0 hsh) (q_0_0 hsh) ?_
  refine P_geti (pc' := 9) dX8_isBeggar_6 rfl fl_X8_82 rfl (l_1 hsh) (t_1 hsh) ?_
  refine P_as hz ?_
  refine P_iconst (pc' := 10) dX8_isBeggar_9 rfl (v := 1) rfl ?_
  refine P_isub (pc' := 11) dX8_isBeggar_10 rfl ?_
  refine P_callS3 (pc' := 14) dX8_isBeggar_11 rfl lk_X8_77 (c_X8_wi (d := 0) v 0 (nI n - 1)) (by omega) (Nat.le_of_ble_eq_true rfl) (fun r S' I' hq => ?_)
  obtain ⟨rfl, rfl, rfl⟩ := hq
  refine P_zret dX8_isBeggar_14 (wi_01 v 0 (nI n - 1)) ?_
  exact ⟨rfl, rfl, rfl⟩
def stF (I : Mem) (p m : Nat) (due : Int32) : Int32 := if p < m ∧ I 31 p = due then 1 else 0
theorem c_X8_stands {G : GX} {S : Shp} {I : Mem} {d p m : Nat} {due : Int32} (hsh : SHP S) (hp : p < 2 ^ 31) (hm : m ≤ 60) : PM G yX8_stands cX8_stands 4 (some .boolean) d 0 0 [.ref 0, .int (nI p), .int (nI m), .int due] S I (Rm S I (stF I p m due)) := by
  refine PM.of (ls := [some (.ref 0), some (.int (nI p)), some (.int (nI m)), some (.int due)]) (by decide) rfl (Nat.le_of_ble_eq_true rfl) rfl ?_
  show PW G RX8 "stands" _ _ _ _ _ _ _ _ _ _ _ _
  refine P_iload1 (pc' := 1) dX8_stands_0 rfl ?_
  refine P_iload2 (pc' := 2) dX8_stands_1 rfl ?_
  refine P_icmp_ge (tgt := 19) (pc' := 5) dX8_stands_2 rfl rfl (fun h2 => ?_) (fun h2 => ?_)
  · refine P_iconst (pc' := 20) dX8_stands_19 rfl (v := 0) rfl ?_
    refine P_zret dX8_stands_20 (by first | exact Or.inl rfl | exact Or.inr rfl) ?_
    first
      | exact ⟨by rw [show stF I p m due = 0 from if_neg (fun z => absurd z.1 (Nat.not_lt.mpr (g2 h2 hp (by omega))))], rfl, rfl⟩
      | exact ⟨by rw [show stF I p m due = 0 from if_neg (fun z => h12 z.2)], rfl, rfl⟩
      | exact ⟨by rw [show stF I p m due = 1 from if_pos ⟨g0 h2 hp (by omega), h12⟩], rfl, rfl⟩
  · refine P_aload0 (pc' := 6) dX8_stands_5 rfl ?_
    refine P_getr (pc' := 9) dX8_stands_6 rfl fl_X8_63 rfl (l_0 hsh) (t_0 hsh) (q_0_10 hsh) ?_
    refine P_iload1 (pc' := 10) dX8_stands_9 rfl ?_
    refine P_iald (pc' := 11) dX8_stands_10 rfl (l_31 hsh) (t_31 hsh) (j := p) rfl (Nat.lt_of_lt_of_le (g0 h2 hp (by omega)) hm) (by decide) ?_
    refine P_iload3 (pc' := 12) dX8_stands_11 rfl ?_
    refine P_icmp_ne (tgt := 19) (pc' := 15) dX8_stands_12 rfl rfl (fun h12 => ?_) (fun h12 => ?_)
    · refine P_iconst (pc' := 20) dX8_stands_19 rfl (v := 0) rfl ?_
      refine P_zret dX8_stands_20 (by first | exact Or.inl rfl | exact Or.inr rfl) ?_
      first
        | exact ⟨by rw [show stF I p m due = 0 from if_neg (fun z => absurd z.1 (Nat.not_lt.mpr (g2 h2 hp (by omega))))], rfl, rfl⟩
        | exact ⟨by rw [show stF I p m due = 0 from if_neg (fun z => h12 z.2)], rfl, rfl⟩
        | exact ⟨by rw [show stF I p m due = 1 from if_pos ⟨g0 h2 hp (by omega), h12⟩], rfl, rfl⟩
    · refine P_iconst (pc' := 16) dX8_stands_15 rfl (v := 1) rfl ?_
      refine P_goto (tgt := 20) dX8_stands_16 rfl ?_
      refine P_zret dX8_stands_20 (by first | exact Or.inl rfl | exact Or.inr rfl) ?_
      first
        | exact ⟨by rw [show stF I p m due = 0 from if_neg (fun z => absurd z.1 (Nat.not_lt.mpr (g2 h2 hp (by omega))))], rfl, rfl⟩
        | exact ⟨by rw [show stF I p m due = 0 from if_neg (fun z => h12 z.2)], rfl, rfl⟩
        | exact ⟨by rw [show stF I p m due = 1 from if_pos ⟨g0 h2 hp (by omega), h12⟩], rfl, rfl⟩
/-! sheets -/
def ShO (S : Shp) (s : Nat) : Prop := s < S.1 ∧ s + 1 < S.1 ∧ S.2.1 s = (2, 0) ∧ S.2.1 (s + 1) = (9, 24) ∧ S.2.2 s 2 = some (s + 1)
theorem sh_o {S : Shp} (h : SHP S) {i : Nat} (hi : i < 4) : ShO S (32 + 2 * i) := by
  have key : i = 0 ∨ i = 1 ∨ i = 2 ∨ i = 3 := by omega
  have := h.1
  rcases key with rfl | rfl | rfl | rfl <;> exact ⟨by omega, by omega, h.2.2.1 _ (by decide), h.2.2.1 _ (by decide), h.2.2.2 _ _ (by decide) (by decide) (by decide)⟩
theorem sh_q {S : Shp} (h : SHP S) {i : Nat} (hi : i < 4) : S.2.2 29 i = some (32 + 2 * i) := by
  have key : i = 0 ∨ i = 1 ∨ i = 2 ∨ i = 3 := by omega
  rcases key with rfl | rfl | rfl | rfl <;> exact h.2.2.2 _ _ (by decide) (by decide) (by decide)
theorem sl_key {i : Nat} (hi : i < 5) : i = 0 ∨ i = 1 ∨ i = 2 ∨ i = 3 ∨ i = 4 := by omega
theorem sl_o {S : Shp} (h : SHP S) {i : Nat} (hi : i < 5) : ShO S (41 + 3 * i) := by
  have := h.1
  rcases sl_key hi with rfl | rfl | rfl | rfl | rfl <;> exact ⟨by omega, by omega, h.2.2.1 _ (by decide), h.2.2.1 _ (by decide), h.2.2.2 _ _ (by decide) (by decide) (by decide)⟩
theorem sl_q {S : Shp} (h : SHP S) {i : Nat} (hi : i < 5) : S.2.2 30 i = some (40 + 3 * i) := by
  rcases sl_key hi with rfl | rfl | rfl | rfl | rfl <;> exact h.2.2.2 _ _ (by decide) (by decide) (by decide)
theorem sl_l {S : Shp} (h : SHP S) {i : Nat} (hi : i < 5) : 40 + 3 * i < S.1 := by have := h.1; omega
theorem sl_t {S : Shp} (h : SHP S) {i : Nat} (hi : i < 5) : S.2.1 (40 + 3 * i) = (3, 0) := by
  rcases sl_key hi with rfl | rfl | rfl | rfl | rfl <;> exact h.2.2.1 _ (by decide)
theorem sl_p {S : Shp} (h : SHP S) {i : Nat} (hi : i < 5) : S.2.2 (40 + 3 * i) 4 = some (41 + 3 * i) := by
  rcases sl_key hi with rfl | rfl | rfl | rfl | rfl <;> exact h.2.2.2 _ _ (by decide) (by decide) (by decide)
theorem c_X3_isMissing {G : GX} {S : Shp} {I : Mem} {d s : Nat} (ho : ShO S s) : PM G yX3_isMissing cX3_isMissing 1 (some .boolean) d 0 0 [.ref s] S I (Rm S I (if I s 0 = -1 then 1 else 0)) := by
  refine PM.of (ls := [some (.ref s)]) (by decide) rfl (Nat.le_of_ble_eq_true rfl) rfl ?_
  show PW G RX3 "isMissing" _ _ _ _ _ _ _ _ _ _ _ _
  refine P_aload0 (pc' := 1) dX3_isMissing_0 rfl ?_
  refine P_geti (pc' := 4) dX3_isMissing_1 rfl fl_X3_9 rfl ho.1 ho.2.2.1 ?_
  refine P_iconst (pc' := 5) dX3_isMissing_4 rfl (v := (-1)) rfl ?_
  refine P_icmp_ne (tgt := 12) (pc' := 8) dX3_isMissing_5 rfl rfl (fun h5 => ?_) (fun h5 => ?_)
  · refine P_iconst (pc' := 13) dX3_isMissing_12 rfl (v := 0) rfl ?_
    refine P_zret dX3_isMissing_13 (by first | exact Or.inl rfl | exact Or.inr rfl) ?_
    first | exact ⟨by rw [if_pos h5], rfl, rfl⟩ | exact ⟨by rw [if_neg h5], rfl, rfl⟩
  · refine P_iconst (pc' := 9) dX3_isMissing_8 rfl (v := 1) rfl ?_
    refine P_goto (tgt := 13) dX3_isMissing_9 rfl ?_
    refine P_zret dX3_isMissing_13 (by first | exact Or.inl rfl | exact Or.inr rfl) ?_
    first | exact ⟨by rw [if_pos h5], rfl, rfl⟩ | exact ⟨by rw [if_neg h5], rfl, rfl⟩
theorem c_X3_has {G : GX} {S : Shp} {I : Mem} {d s : Nat} (v : Int32) (ho : ShO S s) (hd : 1 ≤ d) : PM G yX3_has cX3_has 2 (some .boolean) d 0 0 [.ref s, .int v] S I (Rm S I (wi v 0 (I s 1 - 1))) := by
  refine PM.of (ls := [some (.ref s), some (.int v)]) (by decide) rfl (Nat.le_of_ble_eq_true rfl) rfl ?_
  show PW G RX3 "has" _ _ _ _ _ _ _ _ _ _ _ _
  refine P_iload1 (pc' := 1) dX3_has_0 rfl ?_
  refine P_iconst (pc' := 2) dX3_has_1 rfl (v := 0) rfl ?_
  refine P_aload0 (pc' := 3) dX3_has_2 rfl ?_
  refine P_geti (pc' := 6) dX3_has_3 rfl fl_X3_15 rfl ho.1 ho.2.2.1 ?_
  refine P_iconst (pc' := 7) dX3_has_6 rfl (v := 1) rfl ?_
  refine P_isub (pc' := 8) dX3_has_7 rfl ?_
  refine P_callSN3 (pc' := 11) dX3_has_8 rfl lk_X3_34 (c_X8_wi (d := 0) v 0 (I s 1 - 1)) (by omega) (Nat.le_of_ble_eq_true rfl) (fun r S' I' hq => ?_)
  obtain ⟨rfl, rfl, rfl⟩ := hq
  refine P_zret dX3_has_11 (wi_01 v 0 (I s 1 - 1)) ?_
  exact ⟨rfl, rfl, rfl⟩
theorem wi_n {v : Int32} {n : Nat} (hn : n ≤ 2000) (h : ¬ wi v 0 (nI n - 1) = 0) : ∃ j, j < n ∧ v = nI j := by
  obtain ⟨h1, h2⟩ := z9 h
  cases n with
  | zero =>
    have h3 : (0 : Int32) ≤ nI 0 - 1 := Int32.le_trans h1 h2
    exact absurd h3 (by decide)
  | succ n =>
    rw [nI_pred] at h2
    refine ⟨v.toNatClampNeg, ?_, i_nonneg h1⟩
    rw [i_nonneg h1] at h2
    have hb : v.toNatClampNeg < 2 ^ 31 := by
      have e : v.toNatClampNeg = v.toInt.toNat := rfl
      have := Int32.toInt_lt v
      omega
    have := (nI_leI hb (by omega)).mp h2
    omega
theorem wi_y {n j : Nat} (hn : n ≤ 2000) (hj : j < n) : wi (nI j) 0 (nI n - 1) = 1 := by
  cases n with
  | zero => omega
  | succ n =>
    rw [nI_pred]
    unfold wi
    rw [if_pos ⟨nI_pos' (by omega), nI_le (by omega) (by omega)⟩]
theorem c_X3_isNumber {G : GX} {S : Shp} {I : Mem} {d s n : Nat} (v : Int32) (ho : ShO S s) (hz : I s 1 = nI n) (hn : n ≤ 24) (hd : 2 ≤ d) : PM G yX3_isNumber cX3_isNumber 2 (some .boolean) d 0 0 [.ref s, .int v] S I (Rm S I (if wi v 0 (nI n - 1) = 0 then 0 else if I (s + 1) v.toNatClampNeg = -1000000005 then 0 else 1)) := by
  refine PM.of (ls := [some (.ref s), some (.int v)]) (by decide) rfl (Nat.le_of_ble_eq_true rfl) rfl ?_
  show PW G RX3 "isNumber" _ _ _ _ _ _ _ _ _ _ _ _
  refine P_aload0 (pc' := 1) dX3_isNumber_0 rfl ?_
  refine P_iload1 (pc' := 2) dX3_isNumber_1 rfl ?_
  refine P_callV1 (pc' := 5) dX3_isNumber_2 rfl lk_X3_38 ho.1 ho.2.2.1 (c_X3_has (d := 1) v ho (by omega)) (by omega) (Nat.le_of_ble_eq_true rfl) (fun r S' I' hq => ?_)
  obtain ⟨rfl, rfl, rfl⟩ := hq
  rw [hz]
  refine P_if_eq (tgt := 23) (pc' := 8) dX3_isNumber_5 rfl rfl (fun h5 => ?_) (fun h5 => ?_)
  · refine P_iconst (pc' := 24) dX3_isNumber_23 rfl (v := 0) rfl ?_
    refine P_zret dX3_isNumber_24 (by first | exact Or.inl rfl | exact Or.inr rfl) ?_
    first
      | (rw [if_pos h5]; exact ⟨rfl, rfl, rfl⟩)
      | (rw [if_neg h5, if_pos h16]; exact ⟨rfl, rfl, rfl⟩)
      | (rw [if_neg h5, if_neg h16]; exact ⟨rfl, rfl, rfl⟩)
  · obtain ⟨j, hj, rfl⟩ := wi_n (by omega) h5
    rw [nI_clamp (by omega)]
    refine P_aload0 (pc' := 9) dX3_isNumber_8 rfl ?_
    refine P_getr (pc' := 12) dX3_isNumber_9 rfl fl_X3_18 rfl ho.1 ho.2.2.1 ho.2.2.2.2 ?_
    refine P_iload1 (pc' := 13) dX3_isNumber_12 rfl ?_
    refine P_iald (pc' := 14) dX3_isNumber_13 rfl ho.2.1 ho.2.2.2.1 (j := j) rfl (by omega) (by decide) ?_
    refine P_ldc (pc' := 16) dX3_isNumber_14 rfl co_X3_42 ?_
    refine P_icmp_eq (tgt := 23) (pc' := 19) dX3_isNumber_16 rfl rfl (fun h16 => ?_) (fun h16 => ?_)
    · refine P_iconst (pc' := 24) dX3_isNumber_23 rfl (v := 0) rfl ?_
      refine P_zret dX3_isNumber_24 (by first | exact Or.inl rfl | exact Or.inr rfl) ?_
      first
        | (rw [if_pos h5]; exact ⟨rfl, rfl, rfl⟩)
        | (rw [if_neg h5, if_pos h16]; exact ⟨rfl, rfl, rfl⟩)
        | (rw [if_neg h5, if_neg h16]; exact ⟨rfl, rfl, rfl⟩)
    · refine P_iconst (pc' := 20) dX3_isNumber_19 rfl (v := 1) rfl ?_
      refine P_goto (tgt := 24) dX3_isNumber_20 rfl ?_
      refine P_zret dX3_isNumber_24 (by first | exact Or.inl rfl | exact Or.inr rfl) ?_
      first
        | (rw [if_pos h5]; exact ⟨rfl, rfl, rfl⟩)
        | (rw [if_neg h5, if_pos h16]; exact ⟨rfl, rfl, rfl⟩)
        | (rw [if_neg h5, if_neg h16]; exact ⟨rfl, rfl, rfl⟩)
theorem c_X3_hasAll {G : GX} {S : Shp} {I : Mem} {d s : Nat} (p q : Int32) (ho : ShO S s) (hd : 1 ≤ d) : PM G yX3_hasAll cX3_hasAll 3 (some .boolean) d 0 0 [.ref s, .int p, .int q] S I (Rm S I (if wi p 0 (I s 1) = 0 then 0 else wi q 0 (I s 1 - p))) := by
  refine PM.of (ls := [some (.ref s), some (.int p), some (.int q)]) (by decide) rfl (Nat.le_of_ble_eq_true rfl) rfl ?_
  show PW G RX3 "hasAll" _ _ _ _ _ _ _ _ _ _ _ _
  refine P_iload1 (pc' := 1) dX3_hasAll_0 rfl ?_
  refine P_iconst (pc' := 2) dX3_hasAll_1 rfl (v := 0) rfl ?_
  refine P_aload0 (pc' := 3) dX3_hasAll_2 rfl ?_
  refine P_geti (pc' := 6) dX3_hasAll_3 rfl fl_X3_15 rfl ho.1 ho.2.2.1 ?_
  refine P_callSN3 (pc' := 9) dX3_hasAll_6 rfl lk_X3_34 (c_X8_wi (d := 0) p 0 (I s 1)) (by omega) (Nat.le_of_ble_eq_true rfl) (fun r S' I' hq => ?_)
  obtain ⟨rfl, rfl, rfl⟩ := hq
  refine P_if_eq (tgt := 30) (pc' := 12) dX3_hasAll_9 rfl rfl (fun h9 => ?_) (fun h9 => ?_)
  · refine P_iconst (pc' := 31) dX3_hasAll_30 rfl (v := 0) rfl ?_
    refine P_zret dX3_hasAll_31 (by first | exact Or.inl rfl | exact Or.inr rfl) ?_
    first
      | (rw [if_pos h9]; exact ⟨rfl, rfl, rfl⟩)
      | (rw [if_neg h9]; exact ⟨by rw [show wi q 0 (I s 1 - p) = 0 from h23], rfl, rfl⟩)
      | (rw [if_neg h9]; exact ⟨by rw [wi_y1 h23], rfl, rfl⟩)
  · refine P_iload2 (pc' := 13) dX3_hasAll_12 rfl ?_
    refine P_iconst (pc' := 14) dX3_hasAll_13 rfl (v := 0) rfl ?_
    refine P_aload0 (pc' := 15) dX3_hasAll_14 rfl ?_
    refine P_geti (pc' := 18) dX3_hasAll_15 rfl fl_X3_15 rfl ho.1 ho.2.2.1 ?_
    refine P_iload1 (pc' := 19) dX3_hasAll_18 rfl ?_
    refine P_isub (pc' := 20) dX3_hasAll_19 rfl ?_
    refine P_callSN3 (pc' := 23) dX3_hasAll_20 rfl lk_X3_34 (c_X8_wi (d := 0) q 0 (I s 1 - p)) (by omega) (Nat.le_of_ble_eq_true rfl) (fun r S' I' hq => ?_)
    obtain ⟨rfl, rfl, rfl⟩ := hq
    refine P_if_eq (tgt := 30) (pc' := 26) dX3_hasAll_23 rfl rfl (fun h23 => ?_) (fun h23 => ?_)
    · refine P_iconst (pc' := 31) dX3_hasAll_30 rfl (v := 0) rfl ?_
      refine P_zret dX3_hasAll_31 (by first | exact Or.inl rfl | exact Or.inr rfl) ?_
      first
        | (rw [if_pos h9]; exact ⟨rfl, rfl, rfl⟩)
        | (rw [if_neg h9]; exact ⟨by rw [show wi q 0 (I s 1 - p) = 0 from h23], rfl, rfl⟩)
        | (rw [if_neg h9]; exact ⟨by rw [wi_y1 h23], rfl, rfl⟩)
    · refine P_iconst (pc' := 27) dX3_hasAll_26 rfl (v := 1) rfl ?_
      refine P_goto (tgt := 31) dX3_hasAll_27 rfl ?_
      refine P_zret dX3_hasAll_31 (by first | exact Or.inl rfl | exact Or.inr rfl) ?_
      first
        | (rw [if_pos h9]; exact ⟨rfl, rfl, rfl⟩)
        | (rw [if_neg h9]; exact ⟨by rw [show wi q 0 (I s 1 - p) = 0 from h23], rfl, rfl⟩)
        | (rw [if_neg h9]; exact ⟨by rw [wi_y1 h23], rfl, rfl⟩)
theorem c_X3_begin {G : GX} {S : Shp} {I : Mem} {d s : Nat} (p q : Int32) (ho : ShO S s) (hd : 1 ≤ d) : PM G yX3_begin cX3_begin 3 none d 0 0 [.ref s, .int p, .int q] S I (Rv S (fl1 (u2 (u2 I s 0 p) s 1 q) (s + 1) 24 0)) := by
  refine PM.of (ls := [some (.ref s), some (.int p), some (.int q)]) (by decide) rfl (Nat.le_of_ble_eq_true rfl) rfl ?_
  show PW G RX3 "begin" _ _ _ _ _ _ _ _ _ _ _ _
  refine P_aload0 (pc' := 1) dX3_begin_0 rfl ?_
  refine P_iload1 (pc' := 2) dX3_begin_1 rfl ?_
  refine P_puti (pc' := 5) dX3_begin_2 rfl fl_X3_9 rfl ho.1 ho.2.2.1 ?_
  refine P_aload0 (pc' := 6) dX3_begin_5 rfl ?_
  refine P_iload2 (pc' := 7) dX3_begin_6 rfl ?_
  refine P_puti (pc' := 10) dX3_begin_7 rfl fl_X3_15 rfl ho.1 ho.2.2.1 ?_
  refine P_aload0 (pc' := 11) dX3_begin_10 rfl ?_
  refine P_getr (pc' := 14) dX3_begin_11 rfl fl_X3_18 rfl ho.1 ho.2.2.1 ho.2.2.2.2 ?_
  refine P_iconst (pc' := 15) dX3_begin_14 rfl (v := 0) rfl ?_
  refine P_callS2 (pc' := 18) dX3_begin_15 rfl lk_X3_22 (c_fill (d := 0) 0 ho.2.1 ho.2.2.2.1 (by decide)) (by omega) (Nat.le_of_ble_eq_true rfl) (fun r S' I' hq => ?_)
  obtain ⟨rfl, rfl, rfl⟩ := hq
  refine P_vret dX3_begin_18 ?_
  exact ⟨rfl, rfl, rfl⟩
theorem c_X3_become {G : GX} {S : Shp} {I : Mem} {d s t : Nat} (ho : ShO S s) (ht : ShO S t) (hst : s ≠ t) (h1 : s + 1 ≠ t) (h2 : t + 1 ≠ s) (hd : 2 ≤ d) : PM G yX3_become cX3_become 2 none d 0 0 [.ref s, .ref t] S I (Rv S (sR (u2 (u2 I s 0 (I t 0)) s 1 (I t 1)) (s + 1) (fun j => if j < 24 then I (t + 1) j else I (s + 1) j))) := by
  refine PM.of (ls := [some (.ref s), some (.ref t)]) (by decide) rfl (Nat.le_of_ble_eq_true rfl) rfl ?_
  show PW G RX3 "become" _ _ _ _ _ _ _ _ _ _ _ _
  refine P_aload0 (pc' := 1) dX3_become_0 rfl ?_
  refine P_aload1 (pc' := 2) dX3_become_1 rfl ?_
  refine P_geti (pc' := 5) dX3_become_2 rfl fl_X3_9 rfl ht.1 ht.2.2.1 ?_
  refine P_puti (pc' := 8) dX3_become_5 rfl fl_X3_9 rfl ho.1 ho.2.2.1 ?_
  refine P_aload0 (pc' := 9) dX3_become_8 rfl ?_
  refine P_aload1 (pc' := 10) dX3_become_9 rfl ?_
  refine P_geti (pc' := 13) dX3_become_10 rfl fl_X3_15 rfl ht.1 ht.2.2.1 ?_
  refine P_puti (pc' := 16) dX3_become_13 rfl fl_X3_15 rfl ho.1 ho.2.2.1 ?_
  refine P_aload1 (pc' := 17) dX3_become_16 rfl ?_
  refine P_getr (pc' := 20) dX3_become_17 rfl fl_X3_18 rfl ht.1 ht.2.2.1 ht.2.2.2.2 ?_
  refine P_iconst (pc' := 21) dX3_become_20 rfl (v := 0) rfl ?_
  refine P_aload0 (pc' := 22) dX3_become_21 rfl ?_
  refine P_getr (pc' := 25) dX3_become_22 rfl fl_X3_18 rfl ho.1 ho.2.2.1 ho.2.2.2.2 ?_
  refine P_iconst (pc' := 26) dX3_become_25 rfl (v := 0) rfl ?_
  refine P_bipush (pc' := 28) dX3_become_26 rfl (v := 24) rfl ?_
  refine P_copyQ (pc' := 31) dX3_become_28 rfl lk_X3_28 ht.2.1 ht.2.2.2.1 ho.2.1 ho.2.2.2.1 (n := 24) rfl (by decide) (by decide) (by decide) (by decide) (by omega) (Nat.le_of_ble_eq_true rfl) (fun J1 a1 z1 b1 => ?_)
  refine P_vret dX3_become_31 ?_
  refine ⟨rfl, rfl, ?_⟩
  funext x
  by_cases hx : x = s + 1
  · subst hx
    rw [sR_s]
    funext j
    by_cases hj : j < 24
    · rw [if_pos hj, a1 j hj, u2_row (by omega), u2_row (by omega)]
    · rw [if_neg hj, z1 j (by omega), u2_row (by omega), u2_row (by omega)]
  · rw [sR_n hx, b1 x hx, u2_a (Ne.symm hst)]
/-! the tape -/
def tpB (a : Int32) (k : Nat) : Int32 := vp_nar .byte ((a >>> ((24 - 8 * nI k) &&& 31)).toInt8.toInt32)
def tpW (I : Mem) (a : Int32) (n : Nat) : Nat → Mem
  | 0 => I
  | k + 1 => u2 (u2 (tpW I a n k) 24 (n + k) (tpB a k)) 23 1 (nI (n + k + 1))
theorem tpW_n (I : Mem) (a : Int32) (n : Nat) (h : I 23 1 = nI n) : ∀ k, tpW I a n k 23 1 = nI (n + k)
  | 0 => h
  | k + 1 => u2_s _ _ _ _
theorem lp_X6_add {G : GX} {S : Shp} {I : Mem} {d n : Nat} {a : Int32} (hsh : SHP S) (hz : I 23 1 = nI n) (hn : n + 4 ≤ 96) : ∀ (q k : Nat), k + q = 4 → PW G RX6 "add" cX6_add 3 none d 0 0 (Rv S (tpW I a n 4)) 3 [some (.ref 23), some (.int a), some (.int (24 - 8 * nI k))] [] S (tpW I a n k) := by
  intro q
  induction q with
  | zero =>
    intro k hk
    have hk : k = 4 := by omega
    subst hk
    refine P_iload2 (pc' := 4) dX6_add_3 rfl ?_
    refine P_if_lt (tgt := 45) (pc' := 7) dX6_add_4 rfl rfl (fun h4 => ?_) (fun h4 => ?_)
    · refine P_vret dX6_add_45 ?_
      exact ⟨rfl, rfl, rfl⟩
    · exact absurd (by decide) h4
  | succ q ih =>
    intro k hk
    have key : k = 0 ∨ k = 1 ∨ k = 2 ∨ k = 3 := by omega
    have ek := tpW_n I a n hz k
    have e8 : (24 : Int32) - 8 * nI k + (-8) = 24 - 8 * nI (k + 1) := by rcases key with rfl | rfl | rfl | rfl <;> decide
    refine P_iload2 (pc' := 4) dX6_add_3 rfl ?_
    refine P_if_lt (tgt := 45) (pc' := 7) dX6_add_4 rfl rfl (fun h4 => ?_) (fun h4 => ?_)
    · exact absurd h4 (by rcases key with rfl | rfl | rfl | rfl <;> decide)
    · refine P_aload0 (pc' := 8) dX6_add_7 rfl ?_
      refine P_geti (pc' := 11) dX6_add_8 rfl fl_X6_15 rfl (l_23 hsh) (t_23 hsh) ?_
      refine P_bipush (pc' := 13) dX6_add_11 rfl (v := 96) rfl ?_
      refine P_icmp_ge (tgt := 45) (pc' := 16) dX6_add_13 rfl rfl (fun h13 => ?_) (fun h13 => ?_)
      · exact absurd h13 (by rw [ek]; exact nI_ge (b := 96) (by omega) (by omega))
      · refine P_aload0 (pc' := 17) dX6_add_16 rfl ?_
        refine P_getr (pc' := 20) dX6_add_17 rfl fl_X6_9 rfl (l_23 hsh) (t_23 hsh) (q_23_0 hsh) ?_
        refine P_aload0 (pc' := 21) dX6_add_20 rfl ?_
        refine P_geti (pc' := 24) dX6_add_21 rfl fl_X6_15 rfl (l_23 hsh) (t_23 hsh) ?_
        refine P_as ek ?_
        refine P_iload1 (pc' := 25) dX6_add_24 rfl ?_
        refine P_iload2 (pc' := 26) dX6_add_25 rfl ?_
        refine P_ishr (pc' := 27) dX6_add_26 rfl ?_
        refine P_i2b (pc' := 28) dX6_add_27 rfl ?_
        refine P_bast (pc' := 29) dX6_add_28 rfl (l_24 hsh) (t_24 hsh) (j := n + k) rfl (by omega) (by decide) ?_
        refine P_aload0 (pc' := 30) dX6_add_29 rfl ?_
        refine P_dup (pc' := 31) dX6_add_30 rfl rfl ?_
        refine P_geti (pc' := 34) dX6_add_31 rfl fl_X6_15 rfl (l_23 hsh) (t_23 hsh) ?_
        refine P_iconst (pc' := 35) dX6_add_34 rfl (v := 1) rfl ?_
        refine P_iadd (pc' := 36) dX6_add_35 rfl ?_
        refine P_as (y := nI (n + k + 1)) (by rw [u2_a (by decide), ek, nI_1]) ?_
        refine P_puti (pc' := 39) dX6_add_36 rfl fl_X6_15 rfl (l_23 hsh) (t_23 hsh) ?_
        refine P_iinc2 (pc' := 42) dX6_add_39 rfl e8 (by decide) rfl ?_
        refine P_goto (tgt := 3) dX6_add_42 rfl ?_
        exact ih (k + 1) (by omega)
theorem c_X6_add {G : GX} {S : Shp} {I : Mem} {d n : Nat} {a : Int32} (hsh : SHP S) (hz : I 23 1 = nI n) (hn : n + 4 ≤ 96) : PM G yX6_add cX6_add 3 none d 0 0 [.ref 23, .int a] S I (Rv S (tpW I a n 4)) := by
  refine PM.of (ls := [some (.ref 23), some (.int a), none]) (by decide) rfl (Nat.le_of_ble_eq_true rfl) rfl ?_
  show PW G RX6 "add" _ _ _ _ _ _ _ _ _ _ _ _
  refine P_bipush (pc' := 2) dX6_add_0 rfl (v := 24) rfl ?_
  refine P_istore2 (pc' := 3) dX6_add_2 rfl (by decide) rfl ?_
  exact lp_X6_add hsh hz hn 4 0 (by omega)
/-! laws -/
def enS (k : Int32) : Int32 := if k < 0 then (if k = -10 then -33 else -(cz k)) else if 10000 ≤ k then 9999 - k else k
def KTx (S : Shp) (I : Mem) (tn : Nat) (tx : Nat → Tx) : Prop := tn ≤ 14 ∧ ∀ t, t < tn → ∃ p, S.2.2 26 t = some p ∧ TxOk S I p (tx t).2.1 (max (tx t).2.2.1 1) (fun k => enS ((tx t).2.2.2 k)) ∧ I p 0 = nI (tx t).1 ∧ I p 1 = nI (tx t).2.2.1 ∧ (tx t).1 ≤ 2
theorem lp_X8_lastOf {G : GX} {S : Shp} {I : Mem} {d tn k m : Nat} {tx : Nat → Tx} {v : Int32} (hsh : SHP S) (hr : KTx S I tn tx) (hk : k ≤ 2) : ∀ n, n ≤ tn → lkV (lastK tx k n) = v → PW G RX8 "lastOf" cX8_lastOf 4 (some .int) d 0 0 (Rm S I v) 9 [some (.ref 0), some (.int (nI k)), some (.int (nI m)), some (.int (nI n - 1))] [] S I := by
  intro n
  induction n with
  | zero =>
    intro hn hv
    refine P_iload3 (pc' := 10) dX8_lastOf_9 rfl ?_
    refine P_if_lt (tgt := 43) (pc' := 13) dX8_lastOf_10 rfl rfl (fun h10 => ?_) (fun h10 => ?_)
    · refine P_iconst (pc' := 44) dX8_lastOf_43 rfl (v := (-1)) rfl ?_
      refine P_iret dX8_lastOf_44 ?_
      exact ⟨by rw [← hv]; rfl, rfl, rfl⟩
    · exact absurd (by decide) h10
  | succ n ih =>
    intro hn hv
    obtain ⟨p, p1, p2, p3, p4, p5⟩ := hr.2 n (by omega)
    have h14 := hr.1
    rw [lastK_s] at hv
    rw [nI_pred]
    refine P_iload3 (pc' := 10) dX8_lastOf_9 rfl ?_
    refine P_if_lt (tgt := 43) (pc' := 13) dX8_lastOf_10 rfl rfl (fun h10 => ?_) (fun h10 => ?_)
    · exact absurd h10 (nI_pos (by omega))
    · refine P_aload0 (pc' := 14) dX8_lastOf_13 rfl ?_
      refine P_getr (pc' := 17) dX8_lastOf_14 rfl fl_X8_40 rfl (l_0 hsh) (t_0 hsh) (q_0_6 hsh) ?_
      refine P_iload3 (pc' := 18) dX8_lastOf_17 rfl ?_
      refine P_aald15 (pc' := 19) dX8_lastOf_18 rfl (l_26 hsh) (t_26 hsh) (j := n) rfl (by omega) (by decide) p1 ?_
      refine P_isnull (pc' := 22) dX8_lastOf_19 rfl ?_
      refine P_aload0 (pc' := 23) dX8_lastOf_22 rfl ?_
      refine P_getr (pc' := 26) dX8_lastOf_23 rfl fl_X8_40 rfl (l_0 hsh) (t_0 hsh) (q_0_6 hsh) ?_
      refine P_iload3 (pc' := 27) dX8_lastOf_26 rfl ?_
      refine P_aald15 (pc' := 28) dX8_lastOf_27 rfl (l_26 hsh) (t_26 hsh) (j := n) rfl (by omega) (by decide) p1 ?_
      refine P_geti (pc' := 31) dX8_lastOf_28 rfl fl_X8_230 rfl (Nat.lt_of_le_of_lt (Nat.le_add_right p 2) p2.2.2.1) p2.2.2.2.1 ?_
      refine P_as p3 ?_
      refine P_iload1 (pc' := 32) dX8_lastOf_31 rfl ?_
      refine P_icmp_ne (tgt := 37) (pc' := 35) dX8_lastOf_32 rfl rfl (fun h32 => ?_) (fun h32 => ?_)
      · refine P_iinc3 (pc' := 40) dX8_lastOf_37 rfl (v := nI n - 1) (by rw [Int32.sub_eq_add_neg]; rfl) (by decide) rfl ?_
        refine P_goto (tgt := 9) dX8_lastOf_40 rfl ?_
        rw [if_neg (fun z => h32 (by rw [z]))] at hv
        exact ih (by omega) hv
      · refine P_iload3 (pc' := 36) dX8_lastOf_35 rfl ?_
        refine P_iret dX8_lastOf_36 ?_
        rw [if_pos ((nI_eq (by omega) (by omega)).mp h32)] at hv
        exact ⟨by rw [← hv]; rfl, rfl, rfl⟩
theorem c_X8_lastOf {G : GX} {S : Shp} {I : Mem} {d tn k m : Nat} {tx : Nat → Tx} (hsh : SHP S) (hr : KTx S I tn tx) (hk : k ≤ 2) (hm : m ≤ tn) (hd : 1 ≤ d) : PM G yX8_lastOf cX8_lastOf 4 (some .int) d 0 0 [.ref 0, .int (nI k), .int (nI m)] S I (Rm S I (lkV (lastK tx k m))) := by
  have h14 := hr.1
  refine PM.of (ls := [some (.ref 0), some (.int (nI k)), some (.int (nI m)), none]) (by decide) rfl (Nat.le_of_ble_eq_true rfl) rfl ?_
  show PW G RX8 "lastOf" _ _ _ _ _ _ _ _ _ _ _ _
  refine P_iload2 (pc' := 1) dX8_lastOf_0 rfl ?_
  refine P_bipush (pc' := 3) dX8_lastOf_1 rfl (v := 14) rfl ?_
  refine P_min (pc' := 6) dX8_lastOf_3 rfl lk_X8_151 (by omega) (Nat.le_of_ble_eq_true rfl) ?_
  refine P_as (y := nI m) (if_neg (show ¬ (14 : Int32) < nI m from nI_nlt (a := 14) (b := m) (by omega) (by decide))) ?_
  refine P_iconst (pc' := 7) dX8_lastOf_6 rfl (v := 1) rfl ?_
  refine P_isub (pc' := 8) dX8_lastOf_7 rfl ?_
  refine P_istore3 (pc' := 9) dX8_lastOf_8 rfl (by decide) rfl ?_
  exact lp_X8_lastOf hsh hr hk m (by omega) rfl
/-- the text that counts, as it lies -/
def ctP (S : Shp) (tx : Nat → Tx) (k m : Nat) : Option Nat := match lastK tx k m with
  | none => none
  | some t => S.2.2 26 t
theorem c_X8_counting {G : GX} {S : Shp} {I : Mem} {d tn k m : Nat} {tx : Nat → Tx} (hsh : SHP S) (hr : KTx S I tn tx) (hk : k ≤ 2) (hm : m ≤ tn) (hd : 2 ≤ d) : PM G yX8_counting cX8_counting 4 (some (.object "BeggarCorners$Text")) d 0 0 [.ref 0, .int (nI k), .int (nI m)] S I (fun r S' I' => r = some (va_rf (ctP S tx k m)) ∧ S = S' ∧ I = I') := by
  refine PM.of (ls := [some (.ref 0), some (.int (nI k)), some (.int (nI m)), none]) (by decide) rfl (Nat.le_of_ble_eq_true rfl) rfl ?_
  show PW G RX8 "counting" _ _ _ _ _ _ _ _ _ _ _ _
  have h14 := hr.1
  cases hl : lastK tx k m with
  | none =>
    have ec : ctP S tx k m = none := by unfold ctP; rw [hl]
    rw [ec]
    refine P_aload0 (pc' := 1) dX8_counting_0 rfl ?_
    refine P_iload1 (pc' := 2) dX8_counting_1 rfl ?_
    refine P_iload2 (pc' := 3) dX8_counting_2 rfl ?_
    refine P_callV2 (pc' := 6) dX8_counting_3 rfl lk_X8_236 (l_0 hsh) (t_0 hsh) (c_X8_lastOf (d := 1) hsh hr hk hm (by omega)) (by omega) (Nat.le_of_ble_eq_true rfl) (fun r S' I' hq => ?_)
    obtain ⟨rfl, rfl, rfl⟩ := hq
    rw [hl]
    refine P_istore3 (pc' := 7) dX8_counting_6 rfl (by decide) rfl ?_
    refine P_iload3 (pc' := 8) dX8_counting_7 rfl ?_
    refine P_if_ge (tgt := 15) (pc' := 11) dX8_counting_8 rfl rfl (fun h8 => ?_) (fun h8 => ?_)
    · exact absurd h8 (by decide)
    · refine P_null (pc' := 12) dX8_counting_11 rfl ?_
      refine P_goto (tgt := 21) dX8_counting_12 rfl ?_
      refine P_aretN dX8_counting_21 ?_
      exact ⟨rfl, rfl, rfl⟩
  | some t =>
    have ht := lastK_lt hl
    obtain ⟨p, p1, p2, p3, p4, p5⟩ := hr.2 t (by omega)
    have ec : ctP S tx k m = some p := by unfold ctP; rw [hl]; exact p1
    rw [ec]
    refine P_aload0 (pc' := 1) dX8_counting_0 rfl ?_
    refine P_iload1 (pc' := 2) dX8_counting_1 rfl ?_
    refine P_iload2 (pc' := 3) dX8_counting_2 rfl ?_
    refine P_callV2 (pc' := 6) dX8_counting_3 rfl lk_X8_236 (l_0 hsh) (t_0 hsh) (c_X8_lastOf (d := 1) hsh hr hk hm (by omega)) (by omega) (Nat.le_of_ble_eq_true rfl) (fun r S' I' hq => ?_)
    obtain ⟨rfl, rfl, rfl⟩ := hq
    rw [hl]
    refine P_istore3 (pc' := 7) dX8_counting_6 rfl (by decide) rfl ?_
    refine P_iload3 (pc' := 8) dX8_counting_7 rfl ?_
    refine P_if_ge (tgt := 15) (pc' := 11) dX8_counting_8 rfl rfl (fun h8 => ?_) (fun h8 => ?_)
    · refine P_aload0 (pc' := 16) dX8_counting_15 rfl ?_
      refine P_getr (pc' := 19) dX8_counting_16 rfl fl_X8_40 rfl (l_0 hsh) (t_0 hsh) (q_0_6 hsh) ?_
      refine P_iload3 (pc' := 20) dX8_counting_19 rfl ?_
      refine P_aald15 (pc' := 21) dX8_counting_20 rfl (l_26 hsh) (t_26 hsh) (j := t) rfl (by omega) (by decide) p1 ?_
      refine P_aret dX8_counting_21 ?_
      exact ⟨rfl, rfl, rfl⟩
    · exact absurd (nI_pos' (by omega)) h8

