/-! sheets -/
theorem CO.m {S : Shp} {I J : Mem} {tn bn : Nat} {tx : Nat → Tx} {o : Int32 × Mem} {v : Int32} {U : Mem} (e : o = (v, U)) (h : K S J U tn bn tx) (hf : ∀ x, 55 ≤ x → x < 77 → J x = I x) : CO I o.2 tn bn tx o.1 (some (.int v)) S J := by
  subst e
  exact ⟨rfl, h, hf⟩
theorem CO.n {S : Shp} {I T : Mem} {tn bn : Nat} {tx : Nat → Tx} {o : Int32 × Mem} {v : Int32} (e : o = (v, T)) (h : K S I T tn bn tx) : CO I o.2 tn bn tx o.1 (some (.int v)) S I := CO.m e h (fun _ _ _ => rfl)
/-- one sheet another -/
theorem K.sh1 {S : Shp} {I J T U : Mem} {tn bn i : Nat} {tx : Nat → Tx} {q p : Int32} {f : Nat → Int32} (h : K S I T tn bn tx) (hi : i < 4) (hq : q = -1 ∨ q = 0 ∨ q = 1) (hp : ∃ n, n ≤ 24 ∧ p = nI n) (hf : ∀ k, k < 24 → f k = -1000000005 ∨ (-99999 ≤ f k ∧ f k ≤ 99999))
    (hJo : ∀ x, x ≠ 32 + 2 * i → x ≠ 33 + 2 * i → J x = I x) (hJ0 : J (32 + 2 * i) 0 = q) (hJ1 : J (32 + 2 * i) 1 = p) (hJ2 : ∀ k, k < 24 → J (33 + 2 * i) k = f k)
    (hUo : ∀ x, x ≠ 68 → x ≠ 69 → x ≠ 70 → U x = T x) (hU0 : U 68 i = q) (hU0' : ∀ j, j ≠ i → U 68 j = T 68 j) (hU1 : U 69 i = p) (hU1' : ∀ j, j ≠ i → U 69 j = T 69 j) (hU2 : ∀ k, k < 24 → U 70 (24 * i + k) = f k) (hU2' : ∀ j, (j < 24 * i ∨ 24 * i + 24 ≤ j) → U 70 j = T 70 j) : K S J U tn bn tx := by
  have hS := h.1.2.2.2.2.1
  have hC := h.2.2.2.2.2.2.1
  refine h.sheet (fun x hx => hJo x (by omega) (by omega)) hUo (fun j hj => ?_) (fun j hj => ?_)
  · by_cases e : j = i
    · subst e
      rw [hU0, hU1]
      exact ⟨hq, hp, fun k hk => by rw [hU2 k hk]; exact hf k hk⟩
    · rw [hU0' j e, hU1' j e]
      obtain ⟨s1, s2, s3⟩ := hS j hj
      exact ⟨s1, s2, fun k hk => by rw [hU2' (24 * j + k) (by omega)]; exact s3 k hk⟩
  · by_cases e : j = i
    · subst e
      rw [hU0, hU1, hJ0, hJ1]
      exact ⟨rfl, rfl, fun k hk => by rw [hU2 k hk, hJ2 k hk]⟩
    · rw [hU0' j e, hU1' j e, hJo (32 + 2 * j) (by omega) (by omega), hJo (33 + 2 * j) (by omega) (by omega)]
      obtain ⟨s1, s2, s3⟩ := hC j hj
      exact ⟨s1, s2, fun k hk => by rw [hU2' (24 * j + k) (by omega)]; exact s3 k hk⟩
def shS (T : Mem) (i : Nat) (q p : Int32) : Mem := sR (u2 (u2 T 68 i q) 69 i p) 70 (fun k => if 24 * i ≤ k ∧ k < 24 * i + 24 then 0 else T 70 k)
def oShe (T : Mem) (s q v : Int32) : Int32 × Mem := if wi s 0 3 = 0 then (-1000000001, T) else if wi q (-1) 1 = 0 then (-1000000001, T) else if 24 < (if q = -1 then 0 else v) then (-1000000001, T) else if (if q = -1 then 0 else v) < 0 then (-1000000014, T) else ((if q = -1 then 0 else v), shS T s.toNatClampNeg q (if q = -1 then 0 else v))
theorem wi_q {q : Int32} (h : ¬ wi q (-1) 1 = 0) : q = -1 ∨ q = 0 ∨ q = 1 := by
  obtain ⟨h1, h2⟩ := z9 h
  have e1 : (-1 : Int32).toInt = -1 := by decide
  have e2 : (1 : Int32).toInt = 1 := by decide
  have h1 := Int32.le_iff_toInt_le.mp h1
  have h2 := Int32.le_iff_toInt_le.mp h2
  rw [e1] at h1
  rw [e2] at h2
  have key : q.toInt = -1 ∨ q.toInt = 0 ∨ q.toInt = 1 := by omega
  rcases key with z | z | z
  · exact Or.inl (Int32.toInt_inj.mp (by rw [z]; decide))
  · exact Or.inr (Or.inl (Int32.toInt_inj.mp (by rw [z]; decide)))
  · exact Or.inr (Or.inr (Int32.toInt_inj.mp (by rw [z]; decide)))
theorem x_sheet {G : GX} {S : Shp} {I T : Mem} {d tn bn : Nat} {tx : Nat → Tx} (hK : K S I T tn bn tx) (s q v : Int32) (hd : 12 ≤ d) : PM G yX8_sheet cX8_sheet 5 (some .int) d 0 0 [.ref 0, .int s, .int q, .int v] S I (CO I (oShe T s q v).2 tn bn tx (oShe T s q v).1) := by
  have hsh := hK.2.1
  refine PM.of (ls := [some (.ref 0), some (.int s), some (.int q), some (.int v), none]) (by decide) rfl (Nat.le_of_ble_eq_true rfl) rfl ?_
  show PW G RX8 "sheet" _ _ _ _ _ _ _ _ _ _ _ _
  have key : ¬ wi s 0 3 = 0 → ¬ wi q (-1) 1 = 0 → ∀ p : Int32, (if q = -1 then 0 else v) = p → PW G RX8 "sheet" cX8_sheet 5 (some .int) d 0 0 (CO I (oShe T s q v).2 tn bn tx (oShe T s q v).1) 29 [some (.ref 0), some (.int s), some (.int q), some (.int v), none] [.int p] S I := by
    intro hs hq p hp
    have eo : oShe T s q v = if 24 < p then (-1000000001, T) else if p < 0 then (-1000000014, T) else (p, shS T s.toNatClampNeg q p) := by unfold oShe; rw [if_neg hs, if_neg hq, hp]
    obtain ⟨i, hi, rfl⟩ := wi_b (m := 3) (by decide) hs
    rw [nI_clamp (by omega)] at eo
    refine P_istore4 (pc' := 31) dX8_sheet_29 rfl (by decide) rfl ?_
    refine P_iload4 (pc' := 33) dX8_sheet_31 rfl ?_
    refine P_bipush (pc' := 35) dX8_sheet_33 rfl (v := 24) rfl ?_
    refine P_icmp_le (tgt := 41) (pc' := 38) dX8_sheet_35 rfl rfl (fun h35 => ?_) (fun h35 => ?_)
    · refine P_iload4 (pc' := 43) dX8_sheet_41 rfl ?_
      refine P_if_ge (tgt := 49) (pc' := 46) dX8_sheet_43 rfl rfl (fun h43 => ?_) (fun h43 => ?_)
      · refine P_aload0 (pc' := 50) dX8_sheet_49 rfl ?_
        refine P_getr (pc' := 53) dX8_sheet_50 rfl fl_X8_53 rfl (l_0 hsh) (t_0 hsh) (q_0_8 hsh) ?_
        refine P_iload1 (pc' := 54) dX8_sheet_53 rfl ?_
        refine P_aald13 (pc' := 55) dX8_sheet_54 rfl (l_29 hsh) (t_29 hsh) (j := i) rfl (by omega) (by decide) (sh_q hsh (by omega)) ?_
        refine P_iload2 (pc' := 56) dX8_sheet_55 rfl ?_
        refine P_iload4 (pc' := 58) dX8_sheet_56 rfl ?_
        refine P_callV2 (pc' := 61) dX8_sheet_58 rfl lk_X8_240 (sh_o hsh (show i < 4 by omega)).1 (sh_o hsh (show i < 4 by omega)).2.2.1 (c_X3_begin (d := 2) q p (sh_o hsh (by omega)) (by omega)) (by omega) (Nat.le_of_ble_eq_true rfl) (fun r S' I' hq => ?_)
        obtain ⟨rfl, rfl, rfl⟩ := hq
        refine P_iload4 (pc' := 63) dX8_sheet_61 rfl ?_
        refine P_iret dX8_sheet_63 ?_
        have h0 : ¬ p < 0 := Int32.not_lt.mpr h43
        obtain ⟨n, hn, rfl⟩ := nI_of2 (M := 24) (n := 24) (by decide) h0 h35
        refine CO.m (eo.trans ((if_neg (Int32.not_lt.mpr h35)).trans (if_neg h0))) (hK.sh1 (i := i) (q := q) (p := nI n) (f := fun _ => 0) (by omega) (wi_q hq) ⟨n, hn, rfl⟩ (fun _ _ => Or.inr (by decide)) (fun x h1 h2 => ?_) ?_ ?_ (fun k hk => ?_) (fun x h1 h2 h3 => ?_) ?_ (fun j hj => ?_) ?_ (fun j hj => ?_) (fun k hk => ?_) (fun j hj => ?_)) (fun x h1 h2 => ?_)
        · unfold fl1; rw [sR_n (by omega), u2_row h1, u2_row h1]
        · unfold fl1; rw [sR_n (by omega), u2_k (by decide), u2_s]
        · unfold fl1; rw [sR_n (by omega), u2_s]
        · unfold fl1; rw [show 33 + 2 * i = 32 + 2 * i + 1 by omega, sR_s, if_pos hk]
        · unfold shS; rw [sR_n h3, u2_row h2, u2_row h1]
        · unfold shS; rw [sR_n (by decide), u2_a (by decide), u2_s]
        · unfold shS; rw [sR_n (by decide), u2_a (by decide), u2_k hj]
        · unfold shS; rw [sR_n (by decide), u2_s]
        · unfold shS; rw [sR_n (by decide), u2_k hj, u2_a (by decide)]
        · unfold shS; rw [sR_s, if_pos (by omega)]
        · unfold shS; rw [sR_s, if_neg (by omega)]
        · unfold fl1; rw [sR_n (by omega), u2_row (by omega), u2_row (by omega)]
      · refine P_ldc (pc' := 48) dX8_sheet_46 rfl co_X8_239 ?_
        refine P_iret dX8_sheet_48 ?_
        exact CO.n (eo.trans ((if_neg (Int32.not_lt.mpr h35)).trans (if_pos (Int32.not_le.mp h43)))) hK
    · refine P_ldc (pc' := 40) dX8_sheet_38 rfl co_X8_81 ?_
      refine P_iret dX8_sheet_40 ?_
      exact CO.n (eo.trans (if_pos (Int32.not_le.mp h35))) hK
  refine P_iload1 (pc' := 1) dX8_sheet_0 rfl ?_
  refine P_callS1 (pc' := 4) dX8_sheet_1 rfl lk_X8_203 (c_X8_isSheet (d := 1) s (by omega)) (by omega) (Nat.le_of_ble_eq_true rfl) (fun r S' I' hq => ?_)
  obtain ⟨rfl, rfl, rfl⟩ := hq
  refine P_if_eq (tgt := 16) (pc' := 7) dX8_sheet_4 rfl rfl (fun h4 => ?_) (fun h4 => ?_)
  · refine P_ldc (pc' := 18) dX8_sheet_16 rfl co_X8_81 ?_
    refine P_iret dX8_sheet_18 ?_
    first
      | (refine CO.n (?_ : oShe T s q v = (-1000000001, T)) hK; unfold oShe; rw [if_pos h4]; done)
      | (refine CO.n (?_ : oShe T s q v = (-1000000001, T)) hK; unfold oShe; rw [if_neg h4, if_pos h13])
  · refine P_iload2 (pc' := 8) dX8_sheet_7 rfl ?_
    refine P_iconst (pc' := 9) dX8_sheet_8 rfl (v := (-1)) rfl ?_
    refine P_iconst (pc' := 10) dX8_sheet_9 rfl (v := 1) rfl ?_
    refine P_callS3 (pc' := 13) dX8_sheet_10 rfl lk_X8_77 (c_X8_wi (d := 0) q (-1) 1) (by omega) (Nat.le_of_ble_eq_true rfl) (fun r S' I' hq => ?_)
    obtain ⟨rfl, rfl, rfl⟩ := hq
    refine P_if_ne (tgt := 19) (pc' := 16) dX8_sheet_13 rfl rfl (fun h13 => ?_) (fun h13 => ?_)
    · refine P_iload2 (pc' := 20) dX8_sheet_19 rfl ?_
      refine P_iconst (pc' := 21) dX8_sheet_20 rfl (v := (-1)) rfl ?_
      refine P_icmp_ne (tgt := 28) (pc' := 24) dX8_sheet_21 rfl rfl (fun h21 => ?_) (fun h21 => ?_)
      · refine P_iload3 (pc' := 29) dX8_sheet_28 rfl ?_
        first
          | exact key h4 h13 _ (if_pos h21)
          | exact key h4 h13 _ (if_neg h21)
      · refine P_iconst (pc' := 25) dX8_sheet_24 rfl (v := 0) rfl ?_
        refine P_goto (tgt := 29) dX8_sheet_25 rfl ?_
        first
          | exact key h4 h13 _ (if_pos h21)
          | exact key h4 h13 _ (if_neg h21)
    · refine P_ldc (pc' := 18) dX8_sheet_16 rfl co_X8_81 ?_
      refine P_iret dX8_sheet_18 ?_
      first
        | (refine CO.n (?_ : oShe T s q v = (-1000000001, T)) hK; unfold oShe; rw [if_pos h4]; done)
        | (refine CO.n (?_ : oShe T s q v = (-1000000001, T)) hK; unfold oShe; rw [if_neg h4, if_pos h13])
theorem sh16 (v : Int32) : -99999 ≤ v.toInt16.toInt32 ∧ v.toInt16.toInt32 ≤ 99999 := by
  have e : v.toInt16.toInt32.toInt = v.toInt16.toInt := Int16.toInt_toInt32 _
  have h1 := Int16.le_toInt v.toInt16
  have h2 := Int16.toInt_lt v.toInt16
  have e1 : (-99999 : Int32).toInt = -99999 := by decide
  have e2 : (99999 : Int32).toInt = 99999 := by decide
  constructor
  · rw [Int32.le_iff_toInt_le, e, e1]; omega
  · rw [Int32.le_iff_toInt_le, e, e2]; omega
def oMar (T : Mem) (s j v : Int32) : Int32 × Mem := if wi s 0 3 = 0 then (-1000000001, T) else if T 68 s.toNatClampNeg = -1 then (-1000000011, T) else if wi j 0 (T 69 s.toNatClampNeg - 1) = 0 then (-1000000013, T) else if T 68 s.toNatClampNeg = 0 then (if v = -1000000005 then (-1000000012, T) else (1, u2 T 70 (24 * s.toNatClampNeg + j.toNatClampNeg) v.toInt16.toInt32)) else if v = -1000000005 then (1, u2 T 70 (24 * s.toNatClampNeg + j.toNatClampNeg) v) else if wi v (-99999) 99999 = 0 then (-1000000001, T) else (1, u2 T 70 (24 * s.toNatClampNeg + j.toNatClampNeg) v)
theorem K.mk {S : Shp} {I T : Mem} {tn bn i j : Nat} {tx : Nat → Tx} {y : Int32} (h : K S I T tn bn tx) (hi : i < 4) (hj : j < 24) (hy : y = -1000000005 ∨ (-99999 ≤ y ∧ y ≤ 99999)) : K S (u2 I (32 + 2 * i + 1) j y) (u2 T 70 (24 * i + j) y) tn bn tx := by
  have hS := h.1.2.2.2.2.1 i hi
  have hC := h.2.2.2.2.2.2.1 i hi
  refine h.sh1 (i := i) (q := T 68 i) (p := T 69 i) (f := fun k => if k = j then y else T 70 (24 * i + k)) hi hS.1 hS.2.1 (fun k hk => ?_) (fun x h1 h2 => ?_) ?_ ?_ (fun k hk => ?_) (fun x h1 h2 h3 => ?_) ?_ (fun k hk => ?_) ?_ (fun k hk => ?_) (fun k hk => ?_) (fun k hk => ?_)
  · show (if k = j then y else T 70 (24 * i + k)) = _ ∨ _
    by_cases q : k = j
    · rw [if_pos q]; exact hy
    · rw [if_neg q]; exact hS.2.2 k hk
  · rw [u2_row (by omega)]
  · rw [u2_a (by omega)]; exact hC.1
  · rw [u2_a (by omega)]; exact hC.2.1
  · show _ = if k = j then y else T 70 (24 * i + k)
    rw [show 33 + 2 * i = 32 + 2 * i + 1 by omega]
    by_cases q : k = j
    · rw [if_pos q, q, u2_s]
    · rw [if_neg q, u2_k q, show 32 + 2 * i + 1 = 33 + 2 * i by omega]; exact hC.2.2 k hk
  · rw [u2_row h3]
  · rw [u2_a (by decide)]
  · rw [u2_a (by decide)]
  · rw [u2_a (by decide)]
  · rw [u2_a (by decide)]
  · show _ = if k = j then y else T 70 (24 * i + k)
    by_cases q : k = j
    · rw [if_pos q, q, u2_s]
    · rw [if_neg q, u2_k (by omega)]
  · rw [u2_k (by omega)]
theorem x_mark {G : GX} {S : Shp} {I T : Mem} {d tn bn : Nat} {tx : Nat → Tx} (hK : K S I T tn bn tx) (s j v : Int32) (hd : 12 ≤ d) : PM G yX8_mark cX8_mark 5 (some .int) d 0 0 [.ref 0, .int s, .int j, .int v] S I (CO I (oMar T s j v).2 tn bn tx (oMar T s j v).1) := by
  have hsh := hK.2.1
  refine PM.of (ls := [some (.ref 0), some (.int s), some (.int j), some (.int v), none]) (by decide) rfl (Nat.le_of_ble_eq_true rfl) rfl ?_
  show PW G RX8 "mark" _ _ _ _ _ _ _ _ _ _ _ _
  by_cases hs : wi s 0 3 = 0
  · have eo : oMar T s j v = (-1000000001, T) := if_pos hs
    refine P_iload1 (pc' := 1) dX8_mark_0 rfl ?_
    refine P_callS1 (pc' := 4) dX8_mark_1 rfl lk_X8_203 (c_X8_isSheet (d := 1) s (by omega)) (by omega) (Nat.le_of_ble_eq_true rfl) (fun r S' I' hq => ?_)
    obtain ⟨rfl, rfl, rfl⟩ := hq
    refine P_if_ne (tgt := 10) (pc' := 7) dX8_mark_4 rfl rfl (fun h4 => ?_) (fun h4 => ?_)
    · exact absurd hs h4
    · refine P_ldc (pc' := 9) dX8_mark_7 rfl co_X8_81 ?_
      refine P_iret dX8_mark_9 ?_
      exact CO.n eo hK
  · obtain ⟨i, hi, rfl⟩ := wi_b (m := 3) (by decide) hs
    obtain ⟨s1, ⟨n, hn, s2⟩, s3⟩ := hK.1.2.2.2.2.1 i (by omega)
    obtain ⟨c1, c2, c3⟩ := hK.2.2.2.2.2.2.1 i (by omega)
    have eo : oMar T (nI i) j v = if T 68 i = -1 then (-1000000011, T) else if wi j 0 (nI n - 1) = 0 then (-1000000013, T) else if T 68 i = 0 then (if v = -1000000005 then (-1000000012, T) else (1, u2 T 70 (24 * i + j.toNatClampNeg) v.toInt16.toInt32)) else if v = -1000000005 then (1, u2 T 70 (24 * i + j.toNatClampNeg) v) else if wi v (-99999) 99999 = 0 then (-1000000001, T) else (1, u2 T 70 (24 * i + j.toNatClampNeg) v) := by unfold oMar; rw [if_neg hs, nI_clamp (by omega), s2]
    have hw1 := c2.trans s2
    rcases s1 with z | z | z
    · rw [z, if_pos rfl] at eo
      rw [z] at c1
      refine P_iload1 (pc' := 1) dX8_mark_0 rfl ?_
      refine P_callS1 (pc' := 4) dX8_mark_1 rfl lk_X8_203 (c_X8_isSheet (d := 1) _ (by omega)) (by omega) (Nat.le_of_ble_eq_true rfl) (fun r S' I' hq => ?_)
      obtain ⟨rfl, rfl, rfl⟩ := hq
      refine P_if_ne (tgt := 10) (pc' := 7) dX8_mark_4 rfl rfl (fun h4 => ?_) (fun h4 => ?_)
      · refine P_aload0 (pc' := 11) dX8_mark_10 rfl ?_
        refine P_getr (pc' := 14) dX8_mark_11 rfl fl_X8_53 rfl (l_0 hsh) (t_0 hsh) (q_0_8 hsh) ?_
        refine P_iload1 (pc' := 15) dX8_mark_14 rfl ?_
        refine P_aald13 (pc' := 16) dX8_mark_15 rfl (l_29 hsh) (t_29 hsh) (j := i) rfl (by omega) (by decide) (sh_q hsh (by omega)) ?_
        refine P_astore4 (pc' := 18) dX8_mark_16 rfl (by decide) rfl ?_
        refine P_aload4 (pc' := 20) dX8_mark_18 rfl ?_
        refine P_callV0 (pc' := 23) dX8_mark_20 rfl lk_X8_206 (sh_o hsh (show i < 4 by omega)).1 (sh_o hsh (show i < 4 by omega)).2.2.1 (c_X3_isMissing (d := 2) (sh_o hsh (by omega))) (by omega) (Nat.le_of_ble_eq_true rfl) (fun r S' I' hq => ?_)
        obtain ⟨rfl, rfl, rfl⟩ := hq
        rw [c1]
        refine P_if_eq (tgt := 29) (pc' := 26) dX8_mark_23 rfl rfl (fun h23 => ?_) (fun h23 => ?_)
        · exact absurd h23 (by decide)
        · refine P_ldc (pc' := 28) dX8_mark_26 rfl co_X8_209 ?_
          refine P_iret dX8_mark_28 ?_
          exact CO.n eo hK
      · exact absurd h4 hs
    · rw [z, if_neg (by decide), if_pos rfl] at eo
      rw [z] at c1
      by_cases hj : wi j 0 (nI n - 1) = 0
      · rw [if_pos hj] at eo
        refine P_iload1 (pc' := 1) dX8_mark_0 rfl ?_
        refine P_callS1 (pc' := 4) dX8_mark_1 rfl lk_X8_203 (c_X8_isSheet (d := 1) _ (by omega)) (by omega) (Nat.le_of_ble_eq_true rfl) (fun r S' I' hq => ?_)
        obtain ⟨rfl, rfl, rfl⟩ := hq
        refine P_if_ne (tgt := 10) (pc' := 7) dX8_mark_4 rfl rfl (fun h4 => ?_) (fun h4 => ?_)
        · refine P_aload0 (pc' := 11) dX8_mark_10 rfl ?_
          refine P_getr (pc' := 14) dX8_mark_11 rfl fl_X8_53 rfl (l_0 hsh) (t_0 hsh) (q_0_8 hsh) ?_
          refine P_iload1 (pc' := 15) dX8_mark_14 rfl ?_
          refine P_aald13 (pc' := 16) dX8_mark_15 rfl (l_29 hsh) (t_29 hsh) (j := i) rfl (by omega) (by decide) (sh_q hsh (by omega)) ?_
          refine P_astore4 (pc' := 18) dX8_mark_16 rfl (by decide) rfl ?_
          refine P_aload4 (pc' := 20) dX8_mark_18 rfl ?_
          refine P_callV0 (pc' := 23) dX8_mark_20 rfl lk_X8_206 (sh_o hsh (show i < 4 by omega)).1 (sh_o hsh (show i < 4 by omega)).2.2.1 (c_X3_isMissing (d := 2) (sh_o hsh (by omega))) (by omega) (Nat.le_of_ble_eq_true rfl) (fun r S' I' hq => ?_)
          obtain ⟨rfl, rfl, rfl⟩ := hq
          rw [c1]
          refine P_if_eq (tgt := 29) (pc' := 26) dX8_mark_23 rfl rfl (fun h23 => ?_) (fun h23 => ?_)
          · refine P_aload4 (pc' := 31) dX8_mark_29 rfl ?_
            refine P_iload2 (pc' := 32) dX8_mark_31 rfl ?_
            refine P_callV1 (pc' := 35) dX8_mark_32 rfl lk_X8_243 (sh_o hsh (show i < 4 by omega)).1 (sh_o hsh (show i < 4 by omega)).2.2.1 (c_X3_has (d := 2) j (sh_o hsh (by omega)) (by omega)) (by omega) (Nat.le_of_ble_eq_true rfl) (fun r S' I' hq => ?_)
            obtain ⟨rfl, rfl, rfl⟩ := hq
            rw [hw1]
            refine P_if_ne (tgt := 41) (pc' := 38) dX8_mark_35 rfl rfl (fun h35 => ?_) (fun h35 => ?_)
            · exact absurd hj h35
            · refine P_ldc (pc' := 40) dX8_mark_38 rfl co_X8_246 ?_
              refine P_iret dX8_mark_40 ?_
              exact CO.n eo hK
          · exact absurd (by decide) h23
        · exact absurd h4 hs
      · rw [if_neg hj] at eo
        obtain ⟨m, hm, rfl⟩ := wi_n (by omega) hj
        rw [nI_clamp (by omega)] at eo
        refine P_iload1 (pc' := 1) dX8_mark_0 rfl ?_
        refine P_callS1 (pc' := 4) dX8_mark_1 rfl lk_X8_203 (c_X8_isSheet (d := 1) _ (by omega)) (by omega) (Nat.le_of_ble_eq_true rfl) (fun r S' I' hq => ?_)
        obtain ⟨rfl, rfl, rfl⟩ := hq
        refine P_if_ne (tgt := 10) (pc' := 7) dX8_mark_4 rfl rfl (fun h4 => ?_) (fun h4 => ?_)
        · refine P_aload0 (pc' := 11) dX8_mark_10 rfl ?_
          refine P_getr (pc' := 14) dX8_mark_11 rfl fl_X8_53 rfl (l_0 hsh) (t_0 hsh) (q_0_8 hsh) ?_
          refine P_iload1 (pc' := 15) dX8_mark_14 rfl ?_
          refine P_aald13 (pc' := 16) dX8_mark_15 rfl (l_29 hsh) (t_29 hsh) (j := i) rfl (by omega) (by decide) (sh_q hsh (by omega)) ?_
          refine P_astore4 (pc' := 18) dX8_mark_16 rfl (by decide) rfl ?_
          refine P_aload4 (pc' := 20) dX8_mark_18 rfl ?_
          refine P_callV0 (pc' := 23) dX8_mark_20 rfl lk_X8_206 (sh_o hsh (show i < 4 by omega)).1 (sh_o hsh (show i < 4 by omega)).2.2.1 (c_X3_isMissing (d := 2) (sh_o hsh (by omega))) (by omega) (Nat.le_of_ble_eq_true rfl) (fun r S' I' hq => ?_)
          obtain ⟨rfl, rfl, rfl⟩ := hq
          rw [c1]
          refine P_if_eq (tgt := 29) (pc' := 26) dX8_mark_23 rfl rfl (fun h23 => ?_) (fun h23 => ?_)
          · refine P_aload4 (pc' := 31) dX8_mark_29 rfl ?_
            refine P_iload2 (pc' := 32) dX8_mark_31 rfl ?_
            refine P_callV1 (pc' := 35) dX8_mark_32 rfl lk_X8_243 (sh_o hsh (show i < 4 by omega)).1 (sh_o hsh (show i < 4 by omega)).2.2.1 (c_X3_has (d := 2) (nI m) (sh_o hsh (by omega)) (by omega)) (by omega) (Nat.le_of_ble_eq_true rfl) (fun r S' I' hq => ?_)
            obtain ⟨rfl, rfl, rfl⟩ := hq
            rw [hw1]
            refine P_if_ne (tgt := 41) (pc' := 38) dX8_mark_35 rfl rfl (fun h35 => ?_) (fun h35 => ?_)
            · refine P_aload4 (pc' := 43) dX8_mark_41 rfl ?_
              refine P_geti (pc' := 46) dX8_mark_43 rfl fl_X8_247 rfl (sh_o hsh (show i < 4 by omega)).1 (sh_o hsh (show i < 4 by omega)).2.2.1 ?_
              refine P_as c1 ?_
              refine P_if_ne (tgt := 58) (pc' := 49) dX8_mark_46 rfl rfl (fun h46 => ?_) (fun h46 => ?_)
              · exact absurd rfl h46
              · refine P_iload3 (pc' := 50) dX8_mark_49 rfl ?_
                refine P_ldc (pc' := 52) dX8_mark_50 rfl co_X8_188 ?_
                refine P_icmp_ne (tgt := 58) (pc' := 55) dX8_mark_52 rfl rfl (fun h52 => ?_) (fun h52 => ?_)
                · refine P_aload4 (pc' := 60) dX8_mark_58 rfl ?_
                  refine P_geti (pc' := 63) dX8_mark_60 rfl fl_X8_247 rfl (sh_o hsh (show i < 4 by omega)).1 (sh_o hsh (show i < 4 by omega)).2.2.1 ?_
                  refine P_as c1 ?_
                  refine P_iconst (pc' := 64) dX8_mark_63 rfl (v := 1) rfl ?_
                  refine P_icmp_ne (tgt := 87) (pc' := 67) dX8_mark_64 rfl rfl (fun h64 => ?_) (fun h64 => ?_)
                  · refine P_aload4 (pc' := 89) dX8_mark_87 rfl ?_
                    refine P_getr (pc' := 92) dX8_mark_89 rfl fl_X8_252 rfl (sh_o hsh (show i < 4 by omega)).1 (sh_o hsh (show i < 4 by omega)).2.2.1 (sh_o hsh (show i < 4 by omega)).2.2.2.2 ?_
                    refine P_iload2 (pc' := 93) dX8_mark_92 rfl ?_
                    refine P_aload4 (pc' := 95) dX8_mark_93 rfl ?_
                    refine P_geti (pc' := 98) dX8_mark_95 rfl fl_X8_247 rfl (sh_o hsh (show i < 4 by omega)).1 (sh_o hsh (show i < 4 by omega)).2.2.1 ?_
                    refine P_as c1 ?_
                    refine P_if_ne (tgt := 106) (pc' := 101) dX8_mark_98 rfl rfl (fun h98 => ?_) (fun h98 => ?_)
                    · exact absurd rfl h98
                    · refine P_iload3 (pc' := 102) dX8_mark_101 rfl ?_
                      refine P_i2s (pc' := 103) dX8_mark_102 rfl ?_
                      refine P_goto (tgt := 107) dX8_mark_103 rfl ?_
                      refine P_iast (pc' := 108) dX8_mark_107 rfl (sh_o hsh (show i < 4 by omega)).2.1 (sh_o hsh (show i < 4 by omega)).2.2.2.1 (j := m) rfl (by omega) (by decide) ?_
                      refine P_iconst (pc' := 109) dX8_mark_108 rfl (v := 1) rfl ?_
                      refine P_iret dX8_mark_109 ?_
                      exact CO.m (eo.trans (if_neg h52)) (hK.mk (by omega) (by omega) (Or.inr (sh16 v))) (fun x h1 h2 => u2_row (by omega))
                  · exact absurd h64 (by decide)
                · refine P_ldc (pc' := 57) dX8_mark_55 rfl co_X8_135 ?_
                  refine P_iret dX8_mark_57 ?_
                  exact CO.n (eo.trans (if_pos h52)) hK
            · exact absurd h35 hj
          · exact absurd (by decide) h23
        · exact absurd h4 hs
    · rw [z, if_neg (by decide), if_neg (show ¬ (1 : Int32) = 0 by decide)] at eo
      rw [z] at c1
      by_cases hj : wi j 0 (nI n - 1) = 0
      · rw [if_pos hj] at eo
        refine P_iload1 (pc' := 1) dX8_mark_0 rfl ?_
        refine P_callS1 (pc' := 4) dX8_mark_1 rfl lk_X8_203 (c_X8_isSheet (d := 1) _ (by omega)) (by omega) (Nat.le_of_ble_eq_true rfl) (fun r S' I' hq => ?_)
        obtain ⟨rfl, rfl, rfl⟩ := hq
        refine P_if_ne (tgt := 10) (pc' := 7) dX8_mark_4 rfl rfl (fun h4 => ?_) (fun h4 => ?_)
        · refine P_aload0 (pc' := 11) dX8_mark_10 rfl ?_
          refine P_getr (pc' := 14) dX8_mark_11 rfl fl_X8_53 rfl (l_0 hsh) (t_0 hsh) (q_0_8 hsh) ?_
          refine P_iload1 (pc' := 15) dX8_mark_14 rfl ?_
          refine P_aald13 (pc' := 16) dX8_mark_15 rfl (l_29 hsh) (t_29 hsh) (j := i) rfl (by omega) (by decide) (sh_q hsh (by omega)) ?_
          refine P_astore4 (pc' := 18) dX8_mark_16 rfl (by decide) rfl ?_
          refine P_aload4 (pc' := 20) dX8_mark_18 rfl ?_
          refine P_callV0 (pc' := 23) dX8_mark_20 rfl lk_X8_206 (sh_o hsh (show i < 4 by omega)).1 (sh_o hsh (show i < 4 by omega)).2.2.1 (c_X3_isMissing (d := 2) (sh_o hsh (by omega))) (by omega) (Nat.le_of_ble_eq_true rfl) (fun r S' I' hq => ?_)
          obtain ⟨rfl, rfl, rfl⟩ := hq
          rw [c1]
          refine P_if_eq (tgt := 29) (pc' := 26) dX8_mark_23 rfl rfl (fun h23 => ?_) (fun h23 => ?_)
          · refine P_aload4 (pc' := 31) dX8_mark_29 rfl ?_
            refine P_iload2 (pc' := 32) dX8_mark_31 rfl ?_
            refine P_callV1 (pc' := 35) dX8_mark_32 rfl lk_X8_243 (sh_o hsh (show i < 4 by omega)).1 (sh_o hsh (show i < 4 by omega)).2.2.1 (c_X3_has (d := 2) j (sh_o hsh (by omega)) (by omega)) (by omega) (Nat.le_of_ble_eq_true rfl) (fun r S' I' hq => ?_)
            obtain ⟨rfl, rfl, rfl⟩ := hq
            rw [hw1]
            refine P_if_ne (tgt := 41) (pc' := 38) dX8_mark_35 rfl rfl (fun h35 => ?_) (fun h35 => ?_)
            · exact absurd hj h35
            · refine P_ldc (pc' := 40) dX8_mark_38 rfl co_X8_246 ?_
              refine P_iret dX8_mark_40 ?_
              exact CO.n eo hK
          · exact absurd (by decide) h23
        · exact absurd h4 hs
      · rw [if_neg hj] at eo
        obtain ⟨m, hm, rfl⟩ := wi_n (by omega) hj
        rw [nI_clamp (by omega)] at eo
        refine P_iload1 (pc' := 1) dX8_mark_0 rfl ?_
        refine P_callS1 (pc' := 4) dX8_mark_1 rfl lk_X8_203 (c_X8_isSheet (d := 1) _ (by omega)) (by omega) (Nat.le_of_ble_eq_true rfl) (fun r S' I' hq => ?_)
        obtain ⟨rfl, rfl, rfl⟩ := hq
        refine P_if_ne (tgt := 10) (pc' := 7) dX8_mark_4 rfl rfl (fun h4 => ?_) (fun h4 => ?_)
        · refine P_aload0 (pc' := 11) dX8_mark_10 rfl ?_
          refine P_getr (pc' := 14) dX8_mark_11 rfl fl_X8_53 rfl (l_0 hsh) (t_0 hsh) (q_0_8 hsh) ?_
          refine P_iload1 (pc' := 15) dX8_mark_14 rfl ?_
          refine P_aald13 (pc' := 16) dX8_mark_15 rfl (l_29 hsh) (t_29 hsh) (j := i) rfl (by omega) (by decide) (sh_q hsh (by omega)) ?_
          refine P_astore4 (pc' := 18) dX8_mark_16 rfl (by decide) rfl ?_
          refine P_aload4 (pc' := 20) dX8_mark_18 rfl ?_
          refine P_callV0 (pc' := 23) dX8_mark_20 rfl lk_X8_206 (sh_o hsh (show i < 4 by omega)).1 (sh_o hsh (show i < 4 by omega)).2.2.1 (c_X3_isMissing (d := 2) (sh_o hsh (by omega))) (by omega) (Nat.le_of_ble_eq_true rfl) (fun r S' I' hq => ?_)
          obtain ⟨rfl, rfl, rfl⟩ := hq
          rw [c1]
          refine P_if_eq (tgt := 29) (pc' := 26) dX8_mark_23 rfl rfl (fun h23 => ?_) (fun h23 => ?_)
          · refine P_aload4 (pc' := 31) dX8_mark_29 rfl ?_
            refine P_iload2 (pc' := 32) dX8_mark_31 rfl ?_
            refine P_callV1 (pc' := 35) dX8_mark_32 rfl lk_X8_243 (sh_o hsh (show i < 4 by omega)).1 (sh_o hsh (show i < 4 by omega)).2.2.1 (c_X3_has (d := 2) (nI m) (sh_o hsh (by omega)) (by omega)) (by omega) (Nat.le_of_ble_eq_true rfl) (fun r S' I' hq => ?_)
            obtain ⟨rfl, rfl, rfl⟩ := hq
            rw [hw1]
            refine P_if_ne (tgt := 41) (pc' := 38) dX8_mark_35 rfl rfl (fun h35 => ?_) (fun h35 => ?_)
            · refine P_aload4 (pc' := 43) dX8_mark_41 rfl ?_
              refine P_geti (pc' := 46) dX8_mark_43 rfl fl_X8_247 rfl (sh_o hsh (show i < 4 by omega)).1 (sh_o hsh (show i < 4 by omega)).2.2.1 ?_
              refine P_as c1 ?_
              refine P_if_ne (tgt := 58) (pc' := 49) dX8_mark_46 rfl rfl (fun h46 => ?_) (fun h46 => ?_)
              · refine P_aload4 (pc' := 60) dX8_mark_58 rfl ?_
                refine P_geti (pc' := 63) dX8_mark_60 rfl fl_X8_247 rfl (sh_o hsh (show i < 4 by omega)).1 (sh_o hsh (show i < 4 by omega)).2.2.1 ?_
                refine P_as c1 ?_
                refine P_iconst (pc' := 64) dX8_mark_63 rfl (v := 1) rfl ?_
                refine P_icmp_ne (tgt := 87) (pc' := 67) dX8_mark_64 rfl rfl (fun h64 => ?_) (fun h64 => ?_)
                · exact absurd rfl h64
                · refine P_iload3 (pc' := 68) dX8_mark_67 rfl ?_
                  refine P_ldc (pc' := 70) dX8_mark_68 rfl co_X8_188 ?_
                  refine P_icmp_eq (tgt := 87) (pc' := 73) dX8_mark_70 rfl rfl (fun h70 => ?_) (fun h70 => ?_)
                  · refine P_aload4 (pc' := 89) dX8_mark_87 rfl ?_
                    refine P_getr (pc' := 92) dX8_mark_89 rfl fl_X8_252 rfl (sh_o hsh (show i < 4 by omega)).1 (sh_o hsh (show i < 4 by omega)).2.2.1 (sh_o hsh (show i < 4 by omega)).2.2.2.2 ?_
                    refine P_iload2 (pc' := 93) dX8_mark_92 rfl ?_
                    refine P_aload4 (pc' := 95) dX8_mark_93 rfl ?_
                    refine P_geti (pc' := 98) dX8_mark_95 rfl fl_X8_247 rfl (sh_o hsh (show i < 4 by omega)).1 (sh_o hsh (show i < 4 by omega)).2.2.1 ?_
                    refine P_as c1 ?_
                    refine P_if_ne (tgt := 106) (pc' := 101) dX8_mark_98 rfl rfl (fun h98 => ?_) (fun h98 => ?_)
                    · refine P_iload3 (pc' := 107) dX8_mark_106 rfl ?_
                      refine P_iast (pc' := 108) dX8_mark_107 rfl (sh_o hsh (show i < 4 by omega)).2.1 (sh_o hsh (show i < 4 by omega)).2.2.2.1 (j := m) rfl (by omega) (by decide) ?_
                      refine P_iconst (pc' := 109) dX8_mark_108 rfl (v := 1) rfl ?_
                      refine P_iret dX8_mark_109 ?_
                      first
                        | exact CO.m (eo.trans (if_pos h70)) (hK.mk (by omega) (by omega) (Or.inl h70)) (fun x h1 h2 => u2_row (by omega))
                        | exact CO.m (eo.trans ((if_neg h70).trans (if_neg h81))) (hK.mk (by omega) (by omega) (Or.inr (z9 h81))) (fun x h1 h2 => u2_row (by omega))
                    · exact absurd h98 (by decide)
                  · refine P_iload3 (pc' := 74) dX8_mark_73 rfl ?_
                    refine P_ldc (pc' := 76) dX8_mark_74 rfl co_X8_250 ?_
                    refine P_ldc (pc' := 78) dX8_mark_76 rfl co_X8_251 ?_
                    refine P_callS3 (pc' := 81) dX8_mark_78 rfl lk_X8_77 (c_X8_wi (d := 0) v (-99999) 99999) (by omega) (Nat.le_of_ble_eq_true rfl) (fun r S' I' hq => ?_)
                    obtain ⟨rfl, rfl, rfl⟩ := hq
                    refine P_if_ne (tgt := 87) (pc' := 84) dX8_mark_81 rfl rfl (fun h81 => ?_) (fun h81 => ?_)
                    · refine P_aload4 (pc' := 89) dX8_mark_87 rfl ?_
                      refine P_getr (pc' := 92) dX8_mark_89 rfl fl_X8_252 rfl (sh_o hsh (show i < 4 by omega)).1 (sh_o hsh (show i < 4 by omega)).2.2.1 (sh_o hsh (show i < 4 by omega)).2.2.2.2 ?_
                      refine P_iload2 (pc' := 93) dX8_mark_92 rfl ?_
                      refine P_aload4 (pc' := 95) dX8_mark_93 rfl ?_
                      refine P_geti (pc' := 98) dX8_mark_95 rfl fl_X8_247 rfl (sh_o hsh (show i < 4 by omega)).1 (sh_o hsh (show i < 4 by omega)).2.2.1 ?_
                      refine P_as c1 ?_
                      refine P_if_ne (tgt := 106) (pc' := 101) dX8_mark_98 rfl rfl (fun h98 => ?_) (fun h98 => ?_)
                      · refine P_iload3 (pc' := 107) dX8_mark_106 rfl ?_
                        refine P_iast (pc' := 108) dX8_mark_107 rfl (sh_o hsh (show i < 4 by omega)).2.1 (sh_o hsh (show i < 4 by omega)).2.2.2.1 (j := m) rfl (by omega) (by decide) ?_
                        refine P_iconst (pc' := 109) dX8_mark_108 rfl (v := 1) rfl ?_
                        refine P_iret dX8_mark_109 ?_
                        first
                          | exact CO.m (eo.trans (if_pos h70)) (hK.mk (by omega) (by omega) (Or.inl h70)) (fun x h1 h2 => u2_row (by omega))
                          | exact CO.m (eo.trans ((if_neg h70).trans (if_neg h81))) (hK.mk (by omega) (by omega) (Or.inr (z9 h81))) (fun x h1 h2 => u2_row (by omega))
                      · exact absurd h98 (by decide)
                    · refine P_ldc (pc' := 86) dX8_mark_84 rfl co_X8_81 ?_
                      refine P_iret dX8_mark_86 ?_
                      exact CO.n (eo.trans ((if_neg h70).trans (if_pos h81))) hK
              · exact absurd h46 (by decide)
            · exact absurd h35 hj
          · exact absurd (by decide) h23
        · exact absurd h4 hs

