theorem fd_st {T : Mem} {f : Nat → Int32} : sR (sR T 60 f) 60 f = sR T 60 f := by
  funext x
  by_cases h : x = 60
  · subst h; rw [sR_s, sR_s]
  · rw [sR_n h, sR_n h]
theorem lp_X9_feed {G : GX} {S : Shp} {I T : Mem} {d p : Nat} {a b c : Int32} (hsh : SHP S) (hI : RI T I) (hp : p + 12 ≤ 96) (e5 : I 55 6 = nI p) : ∀ (k i : Nat) (f : Nat → Int32) (x5 : Option Value), i + k = 12 → (∀ j, f j = if p ≤ j ∧ j < p + i then fdB a b c (j - p) else T 60 j) → PW G RX9 "feed" cX9_feed 6 (some .int) d 0 0 (RO S I (fdU T p a b c) (nI (p + 12))) 18 [some (.ref 55), some (.int a), some (.int b), some (.int c), some (.int (nI i)), x5] [] S (sR I 60 f) := by
  intro k
  induction k with
  | zero =>
    intro i f x5 hi hf
    have hi : i = 12 := by omega
    subst hi
    have e55 : sR I 60 f 55 6 = nI p := by rw [sR_n (by decide)]; exact e5
    have ef : f = fun k => if p ≤ k ∧ k < p + 12 then fdB a b c (k - p) else T 60 k := funext hf
    refine P_iload4 (pc' := 20) dX9_feed_18 rfl ?_
    refine P_bipush (pc' := 22) dX9_feed_20 rfl (v := 12) rfl ?_
    refine P_icmp_ge (tgt := 84) (pc' := 25) dX9_feed_22 rfl rfl (fun h22 => ?_) (fun h22 => ?_)
    · refine P_aload0 (pc' := 85) dX9_feed_84 rfl ?_
      refine P_dup (pc' := 86) dX9_feed_85 rfl rfl ?_
      refine P_geti (pc' := 89) dX9_feed_86 rfl fl_X9_179 rfl (l_55 hsh) (t_55 hsh) ?_
      refine P_as e55 ?_
      refine P_bipush (pc' := 91) dX9_feed_89 rfl (v := 12) rfl ?_
      refine P_iadd (pc' := 92) dX9_feed_91 rfl ?_
      refine P_as (nI_add p 12) ?_
      refine P_puti (pc' := 95) dX9_feed_92 rfl fl_X9_179 rfl (l_55 hsh) (t_55 hsh) ?_
      refine P_aload0 (pc' := 96) dX9_feed_95 rfl ?_
      refine P_geti (pc' := 99) dX9_feed_96 rfl fl_X9_179 rfl (l_55 hsh) (t_55 hsh) ?_
      refine P_as (u2_s _ _ _ _) ?_
      refine P_iret dX9_feed_99 ?_
      subst ef
      exact ⟨rfl, rfl, RE.rf ((hI.s _ _).u _ _ _), fun x hx => by rw [u2_row (by omega), sR_n (by omega)]⟩
    · exact absurd (by decide) h22
  | succ k ih =>
    intro i f x5 hi hf
    have e55 : sR I 60 f 55 6 = nI p := by rw [sR_n (by decide)]; exact e5
    have er : nI i - nI i / 4 * 4 = nI (i % 4) := pk_rem (a := i) (d := 4) (by omega) (by decide) (by decide)
    have nxt : ∀ y : Int32, y = wdF a b c i → PW G RX9 "feed" cX9_feed 6 (some .int) d 0 0 (RO S I (fdU T p a b c) (nI (p + 12))) 47 [some (.ref 55), some (.int a), some (.int b), some (.int c), some (.int (nI i)), x5] [.int y] S (sR I 60 f) := by
      intro y hy
      subst hy
      refine P_istore5 (pc' := 49) dX9_feed_47 rfl (by decide) rfl ?_
      refine P_aload0 (pc' := 50) dX9_feed_49 rfl ?_
      refine P_getr (pc' := 53) dX9_feed_50 rfl fl_X9_22 rfl (l_55 hsh) (t_55 hsh) (q_55_5 hsh) ?_
      refine P_aload0 (pc' := 54) dX9_feed_53 rfl ?_
      refine P_geti (pc' := 57) dX9_feed_54 rfl fl_X9_179 rfl (l_55 hsh) (t_55 hsh) ?_
      refine P_as e55 ?_
      refine P_iload4 (pc' := 59) dX9_feed_57 rfl ?_
      refine P_iadd (pc' := 60) dX9_feed_59 rfl ?_
      refine P_as (nI_add p i) ?_
      refine P_iload5 (pc' := 62) dX9_feed_60 rfl ?_
      refine P_bipush (pc' := 64) dX9_feed_62 rfl (v := 24) rfl ?_
      refine P_bipush (pc' := 66) dX9_feed_64 rfl (v := 8) rfl ?_
      refine P_iload4 (pc' := 68) dX9_feed_66 rfl ?_
      refine P_iconst (pc' := 69) dX9_feed_68 rfl (v := 4) rfl ?_
      refine P_irem (pc' := 70) dX9_feed_69 rfl (by decide) ?_
      refine P_as er ?_
      refine P_imul (pc' := 71) dX9_feed_70 rfl ?_
      refine P_isub (pc' := 72) dX9_feed_71 rfl ?_
      refine P_ishr (pc' := 73) dX9_feed_72 rfl ?_
      refine P_sipush (pc' := 76) dX9_feed_73 rfl (v := 255) rfl ?_
      refine P_iand (pc' := 77) dX9_feed_76 rfl ?_
      refine P_iast (pc' := 78) dX9_feed_77 rfl (l_60 hsh) (t_60 hsh) (j := p + i) rfl (by omega) (by decide) ?_
      refine P_iinc4 (pc' := 81) dX9_feed_78 rfl (nI_1 i) (by decide) rfl ?_
      refine P_goto (tgt := 18) dX9_feed_81 rfl ?_
      rw [sR_u]
      refine ih (i + 1) _ _ (by omega) (fun j => ?_)
      unfold upd
      by_cases q : j = p + i
      · rw [if_pos q, if_pos (by omega), show j - p = i by omega]; rfl
      · rw [if_neg q, hf j]
        by_cases r : p ≤ j ∧ j < p + i
        · rw [if_pos r, if_pos (by omega)]
        · rw [if_neg r, if_neg (by omega)]
    refine P_iload4 (pc' := 20) dX9_feed_18 rfl ?_
    refine P_bipush (pc' := 22) dX9_feed_20 rfl (v := 12) rfl ?_
    refine P_icmp_ge (tgt := 84) (pc' := 25) dX9_feed_22 rfl rfl (fun h22 => ?_) (fun h22 => ?_)
    · exact absurd h22 (nI_ge (a := i) (b := 12) (by omega) (by decide))
    · refine P_iload4 (pc' := 27) dX9_feed_25 rfl ?_
      refine P_iconst (pc' := 28) dX9_feed_27 rfl (v := 4) rfl ?_
      refine P_icmp_ge (tgt := 35) (pc' := 31) dX9_feed_28 rfl rfl (fun h28 => ?_) (fun h28 => ?_)
      · refine P_iload4 (pc' := 37) dX9_feed_35 rfl ?_
        refine P_bipush (pc' := 39) dX9_feed_37 rfl (v := 8) rfl ?_
        refine P_icmp_ge (tgt := 46) (pc' := 42) dX9_feed_39 rfl rfl (fun h39 => ?_) (fun h39 => ?_)
        · refine P_iload3 (pc' := 47) dX9_feed_46 rfl ?_
          first
            | exact nxt _ (by unfold wdF; rw [if_pos (g0 (a := i) (b := 4) h28 (by omega) (by decide))])
            | exact nxt _ (by unfold wdF; rw [if_neg (by have := g2 (a := i) (b := 4) h28 (by omega) (by decide); omega), if_pos (g0 (a := i) (b := 8) h39 (by omega) (by decide))])
            | exact nxt _ (by unfold wdF; rw [if_neg (by have := g2 (a := i) (b := 4) h28 (by omega) (by decide); omega), if_neg (by have := g2 (a := i) (b := 8) h39 (by omega) (by decide); omega)])
        · refine P_iload2 (pc' := 43) dX9_feed_42 rfl ?_
          refine P_goto (tgt := 47) dX9_feed_43 rfl ?_
          first
            | exact nxt _ (by unfold wdF; rw [if_pos (g0 (a := i) (b := 4) h28 (by omega) (by decide))])
            | exact nxt _ (by unfold wdF; rw [if_neg (by have := g2 (a := i) (b := 4) h28 (by omega) (by decide); omega), if_pos (g0 (a := i) (b := 8) h39 (by omega) (by decide))])
            | exact nxt _ (by unfold wdF; rw [if_neg (by have := g2 (a := i) (b := 4) h28 (by omega) (by decide); omega), if_neg (by have := g2 (a := i) (b := 8) h39 (by omega) (by decide); omega)])
      · refine P_iload1 (pc' := 32) dX9_feed_31 rfl ?_
        refine P_goto (tgt := 47) dX9_feed_32 rfl ?_
        first
          | exact nxt _ (by unfold wdF; rw [if_pos (g0 (a := i) (b := 4) h28 (by omega) (by decide))])
          | exact nxt _ (by unfold wdF; rw [if_neg (by have := g2 (a := i) (b := 4) h28 (by omega) (by decide); omega), if_pos (g0 (a := i) (b := 8) h39 (by omega) (by decide))])
          | exact nxt _ (by unfold wdF; rw [if_neg (by have := g2 (a := i) (b := 4) h28 (by omega) (by decide); omega), if_neg (by have := g2 (a := i) (b := 8) h39 (by omega) (by decide); omega)])
theorem r_feed {G : GX} {S : Shp} {I T : Mem} {d tn bn : Nat} {tx : Nat → Tx} (hT : KT T tn bn tx) (hsh : SHP S) (hI : RI T I) (a b c : Int32) (hd : 12 ≤ d) : PM G yX9_feed cX9_feed 6 (some .int) d 0 0 [.ref 55, .int a, .int b, .int c] S I (RO S I (oFed T a b c).2 (oFed T a b c).1) := by
  obtain ⟨p, hp, ep⟩ := hT.2.2.2.2.2.2.2.1
  have e5 : I 55 6 = nI p := by rw [hI 55 (by decide) (by decide)]; exact ep
  have eo : oFed T a b c = if 96 < nI (p + 12) then (-1000000003, T) else (nI (p + 12), fdU T p a b c) := by unfold oFed; rw [ep, show nI p + 12 = nI (p + 12) from nI_add p 12, nI_clamp (by omega)]
  refine PM.of (ls := [some (.ref 55), some (.int a), some (.int b), some (.int c), none, none]) (by decide) rfl (Nat.le_of_ble_eq_true rfl) rfl ?_
  show PW G RX9 "feed" _ _ _ _ _ _ _ _ _ _ _ _
  refine P_aload0 (pc' := 1) dX9_feed_0 rfl ?_
  refine P_geti (pc' := 4) dX9_feed_1 rfl fl_X9_179 rfl (l_55 hsh) (t_55 hsh) ?_
  refine P_as e5 ?_
  refine P_bipush (pc' := 6) dX9_feed_4 rfl (v := 12) rfl ?_
  refine P_iadd (pc' := 7) dX9_feed_6 rfl ?_
  refine P_as (nI_add p 12) ?_
  refine P_bipush (pc' := 9) dX9_feed_7 rfl (v := 96) rfl ?_
  refine P_icmp_le (tgt := 15) (pc' := 12) dX9_feed_9 rfl rfl (fun h9 => ?_) (fun h9 => ?_)
  · refine P_iconst (pc' := 16) dX9_feed_15 rfl (v := 0) rfl ?_
    refine P_istore4 (pc' := 18) dX9_feed_16 rfl (by decide) rfl ?_
    have hp2 : p + 12 ≤ 96 := (nI_leI (a := p + 12) (b := 96) (by omega) (by decide)).mp h9
    rw [eo, if_neg (Int32.not_lt.mpr h9)]
    have h := lp_X9_feed (G := G) (S := S) (d := d) (a := a) (b := b) (c := c) hsh hI hp2 e5 12 0 (I 60) none (by omega) (fun j => by rw [if_neg (by omega), hI 60 (by decide) (by decide)])
    rw [sR_self] at h
    exact h
  · refine P_ldc (pc' := 14) dX9_feed_12 rfl co_X9_84 ?_
    refine P_iret dX9_feed_14 ?_
    exact RO.n (eo.trans (if_pos (Int32.not_le.mp h9))) hI
/-! sheets, in the reference -/
theorem lp_X9_sheet {G : GX} {S : Shp} {I T : Mem} {d i : Nat} {q v p : Int32} (hsh : SHP S) (hI : RI T I) (hi : i < 4) : ∀ (k j : Nat) (f : Nat → Int32), j + k = 24 → (∀ l, f l = if 24 * i ≤ l ∧ l < 24 * i + j then 0 else T 70 l) → PW G RX9 "sheet" cX9_sheet 5 (some .int) d 0 0 (RO S I (shS T i q p) p) 65 [some (.ref 55), some (.int (nI i)), some (.int q), some (.int v), some (.int (nI j))] [] S (sR (u2 (u2 I 68 i q) 69 i p) 70 f) := by
  intro k
  induction k with
  | zero =>
    intro j f hj hf
    have hj : j = 24 := by omega
    subst hj
    have ef : f = fun l => if 24 * i ≤ l ∧ l < 24 * i + 24 then 0 else T 70 l := funext hf
    refine P_iload4 (pc' := 67) dX9_sheet_65 rfl ?_
    refine P_bipush (pc' := 69) dX9_sheet_67 rfl (v := 24) rfl ?_
    refine P_icmp_ge (tgt := 91) (pc' := 72) dX9_sheet_69 rfl rfl (fun h69 => ?_) (fun h69 => ?_)
    · refine P_aload0 (pc' := 92) dX9_sheet_91 rfl ?_
      refine P_getr (pc' := 95) dX9_sheet_92 rfl fl_X9_51 rfl (l_55 hsh) (t_55 hsh) (q_55_24 hsh) ?_
      refine P_iload1 (pc' := 96) dX9_sheet_95 rfl ?_
      refine P_iald (pc' := 97) dX9_sheet_96 rfl (l_69 hsh) (t_69 hsh) (j := i) rfl (by omega) (by decide) ?_
      refine P_as (y := p) (by rw [sR_n (by decide), u2_s]) ?_
      refine P_iret dX9_sheet_97 ?_
      subst ef
      exact ⟨rfl, rfl, RE.rf (((hI.u _ _ _).u _ _ _).s _ _), fun x hx => by rw [sR_n (by omega), u2_row (by omega), u2_row (by omega)]⟩
    · exact absurd (by decide) h69
  | succ k ih =>
    intro j f hj hf
    have ec : (24 : Int32) * nI i = nI (24 * i) := pk_mul 24 i
    refine P_iload4 (pc' := 67) dX9_sheet_65 rfl ?_
    refine P_bipush (pc' := 69) dX9_sheet_67 rfl (v := 24) rfl ?_
    refine P_icmp_ge (tgt := 91) (pc' := 72) dX9_sheet_69 rfl rfl (fun h69 => ?_) (fun h69 => ?_)
    · exact absurd h69 (nI_ge (a := j) (b := 24) (by omega) (by decide))
    · refine P_aload0 (pc' := 73) dX9_sheet_72 rfl ?_
      refine P_getr (pc' := 76) dX9_sheet_73 rfl fl_X9_54 rfl (l_55 hsh) (t_55 hsh) (q_55_25 hsh) ?_
      refine P_bipush (pc' := 78) dX9_sheet_76 rfl (v := 24) rfl ?_
      refine P_iload1 (pc' := 79) dX9_sheet_78 rfl ?_
      refine P_imul (pc' := 80) dX9_sheet_79 rfl ?_
      refine P_as ec ?_
      refine P_iload4 (pc' := 82) dX9_sheet_80 rfl ?_
      refine P_iadd (pc' := 83) dX9_sheet_82 rfl ?_
      refine P_as (nI_add _ _) ?_
      refine P_iconst (pc' := 84) dX9_sheet_83 rfl (v := 0) rfl ?_
      refine P_iast (pc' := 85) dX9_sheet_84 rfl (l_70 hsh) (t_70 hsh) (j := 24 * i + j) rfl (by omega) (by decide) ?_
      refine P_iinc4 (pc' := 88) dX9_sheet_85 rfl (nI_1 j) (by decide) rfl ?_
      refine P_goto (tgt := 65) dX9_sheet_88 rfl ?_
      rw [sR_u]
      refine ih (j + 1) _ (by omega) (fun l => ?_)
      unfold upd
      by_cases z : l = 24 * i + j
      · rw [if_pos z, if_pos (by omega)]
      · rw [if_neg z, hf l]
        by_cases r : 24 * i ≤ l ∧ l < 24 * i + j
        · rw [if_pos r, if_pos (by omega)]
        · rw [if_neg r, if_neg (by omega)]
theorem r_sheet {G : GX} {S : Shp} {I T : Mem} {d tn bn : Nat} {tx : Nat → Tx} (hT : KT T tn bn tx) (hsh : SHP S) (hI : RI T I) (s q v : Int32) (hd : 12 ≤ d) : PM G yX9_sheet cX9_sheet 5 (some .int) d 0 0 [.ref 55, .int s, .int q, .int v] S I (RO S I (oShe T s q v).2 (oShe T s q v).1) := by
  refine PM.of (ls := [some (.ref 55), some (.int s), some (.int q), some (.int v), none]) (by decide) rfl (Nat.le_of_ble_eq_true rfl) rfl ?_
  show PW G RX9 "sheet" _ _ _ _ _ _ _ _ _ _ _ _
  by_cases hs : wi s 0 3 = 0
  · have eo : oShe T s q v = (-1000000001, T) := if_pos hs
    refine P_iload1 (pc' := 1) dX9_sheet_0 rfl ?_
    refine P_callS1 (pc' := 4) dX9_sheet_1 rfl lk_X9_171 (c_X9_isSheet (d := 1) s (by omega)) (by omega) (Nat.le_of_ble_eq_true rfl) (fun r S' I' hq => ?_)
    obtain ⟨rfl, rfl, rfl⟩ := hq
    refine P_if_eq (tgt := 26) (pc' := 7) dX9_sheet_4 rfl rfl (fun h4 => ?_) (fun h4 => ?_)
    · refine P_ldc (pc' := 28) dX9_sheet_26 rfl co_X9_83 ?_
      refine P_iret dX9_sheet_28 ?_
      exact RO.n eo hI
    · exact absurd hs h4
  by_cases hq : wi q (-1) 1 = 0
  · have eo : oShe T s q v = (-1000000001, T) := (if_neg hs).trans (if_pos hq)
    refine P_iload1 (pc' := 1) dX9_sheet_0 rfl ?_
    refine P_callS1 (pc' := 4) dX9_sheet_1 rfl lk_X9_171 (c_X9_isSheet (d := 1) s (by omega)) (by omega) (Nat.le_of_ble_eq_true rfl) (fun r S' I' hq => ?_)
    obtain ⟨rfl, rfl, rfl⟩ := hq
    refine P_if_eq (tgt := 26) (pc' := 7) dX9_sheet_4 rfl rfl (fun h4 => ?_) (fun h4 => ?_)
    · exact absurd h4 hs
    · refine P_iload2 (pc' := 8) dX9_sheet_7 rfl ?_
      refine P_iconst (pc' := 9) dX9_sheet_8 rfl (v := (-1)) rfl ?_
      refine P_iconst (pc' := 10) dX9_sheet_9 rfl (v := 1) rfl ?_
      refine P_callS3 (pc' := 13) dX9_sheet_10 rfl lk_X9_75 (c_X9_in (d := 0) q (-1) 1) (by omega) (Nat.le_of_ble_eq_true rfl) (fun r S' I' hq => ?_)
      obtain ⟨rfl, rfl, rfl⟩ := hq
      refine P_if_eq (tgt := 26) (pc' := 16) dX9_sheet_13 rfl rfl (fun h13 => ?_) (fun h13 => ?_)
      · refine P_ldc (pc' := 28) dX9_sheet_26 rfl co_X9_83 ?_
        refine P_iret dX9_sheet_28 ?_
        exact RO.n eo hI
      · exact absurd hq h13
  obtain ⟨i, hi, rfl⟩ := wi_b (m := 3) (by decide) hs
  have go : ∀ p : Int32, PW G RX9 "sheet" cX9_sheet 5 (some .int) d 0 0 (RO S I (shS T i q p) p) 62 [some (.ref 55), some (.int (nI i)), some (.int q), some (.int v), none] [] S (u2 (u2 I 68 i q) 69 i p) := by
    intro p
    refine P_iconst (pc' := 63) dX9_sheet_62 rfl (v := 0) rfl ?_
    refine P_istore4 (pc' := 65) dX9_sheet_63 rfl (by decide) rfl ?_
    have h := lp_X9_sheet (G := G) (S := S) (d := d) (q := q) (v := v) (p := p) hsh hI (show i < 4 by omega) 24 0 (I 70) (by omega) (fun l => by rw [if_neg (by omega), hI 70 (by decide) (by decide)])
    rw [show sR (u2 (u2 I 68 i q) 69 i p) 70 (I 70) = u2 (u2 I 68 i q) 69 i p from ?_] at h
    · exact h
    · have e : u2 (u2 I 68 i q) 69 i p 70 = I 70 := by rw [u2_row (by decide), u2_row (by decide)]
      rw [← e, sR_self]
  by_cases q1 : q = -1
  · subst q1
    have eo : oShe T (nI i) (-1) v = (0, shS T i (-1) 0) := by
      unfold oShe
      rw [if_neg hs, if_neg hq, if_pos rfl, if_neg (by decide), if_neg (by decide), nI_clamp (by omega)]
    rw [eo]
    refine P_iload1 (pc' := 1) dX9_sheet_0 rfl ?_
    refine P_callS1 (pc' := 4) dX9_sheet_1 rfl lk_X9_171 (c_X9_isSheet (d := 1) _ (by omega)) (by omega) (Nat.le_of_ble_eq_true rfl) (fun r S' I' hq => ?_)
    obtain ⟨rfl, rfl, rfl⟩ := hq
    refine P_if_eq (tgt := 26) (pc' := 7) dX9_sheet_4 rfl rfl (fun h4 => ?_) (fun h4 => ?_)
    · exact absurd h4 hs
    · refine P_iload2 (pc' := 8) dX9_sheet_7 rfl ?_
      refine P_iconst (pc' := 9) dX9_sheet_8 rfl (v := (-1)) rfl ?_
      refine P_iconst (pc' := 10) dX9_sheet_9 rfl (v := 1) rfl ?_
      refine P_callS3 (pc' := 13) dX9_sheet_10 rfl lk_X9_75 (c_X9_in (d := 0) (-1) (-1) 1) (by omega) (Nat.le_of_ble_eq_true rfl) (fun r S' I' hq => ?_)
      obtain ⟨rfl, rfl, rfl⟩ := hq
      refine P_if_eq (tgt := 26) (pc' := 16) dX9_sheet_13 rfl rfl (fun h13 => ?_) (fun h13 => ?_)
      · exact absurd h13 hq
      · refine P_iload2 (pc' := 17) dX9_sheet_16 rfl ?_
        refine P_if_lt (tgt := 29) (pc' := 20) dX9_sheet_17 rfl rfl (fun h17 => ?_) (fun h17 => ?_)
        · refine P_iload2 (pc' := 30) dX9_sheet_29 rfl ?_
          refine P_if_lt (tgt := 40) (pc' := 33) dX9_sheet_30 rfl rfl (fun h30 => ?_) (fun h30 => ?_)
          · refine P_aload0 (pc' := 41) dX9_sheet_40 rfl ?_
            refine P_getr (pc' := 44) dX9_sheet_41 rfl fl_X9_48 rfl (l_55 hsh) (t_55 hsh) (q_55_23 hsh) ?_
            refine P_iload1 (pc' := 45) dX9_sheet_44 rfl ?_
            refine P_iload2 (pc' := 46) dX9_sheet_45 rfl ?_
            refine P_iast (pc' := 47) dX9_sheet_46 rfl (l_68 hsh) (t_68 hsh) (j := i) rfl (by omega) (by decide) ?_
            refine P_aload0 (pc' := 48) dX9_sheet_47 rfl ?_
            refine P_getr (pc' := 51) dX9_sheet_48 rfl fl_X9_51 rfl (l_55 hsh) (t_55 hsh) (q_55_24 hsh) ?_
            refine P_iload1 (pc' := 52) dX9_sheet_51 rfl ?_
            refine P_iload2 (pc' := 53) dX9_sheet_52 rfl ?_
            refine P_if_ge (tgt := 60) (pc' := 56) dX9_sheet_53 rfl rfl (fun h53 => ?_) (fun h53 => ?_)
            · exact absurd h53 (by decide)
            · refine P_iconst (pc' := 57) dX9_sheet_56 rfl (v := 0) rfl ?_
              refine P_goto (tgt := 61) dX9_sheet_57 rfl ?_
              refine P_iast (pc' := 62) dX9_sheet_61 rfl (l_69 hsh) (t_69 hsh) (j := i) rfl (by omega) (by decide) ?_
              exact go 0
          · exact absurd (by decide) h30
        · exact absurd (by decide) h17
  · have q0 : ¬ q < 0 := by rcases wi_q hq with z | z | z <;> first | exact absurd z q1 | (rw [z]; decide)
    have eo : oShe T (nI i) q v = if 24 < v then (-1000000001, T) else if v < 0 then (-1000000014, T) else (v, shS T i q v) := by
      unfold oShe
      rw [if_neg hs, if_neg hq, if_neg q1, nI_clamp (by omega)]
    refine P_iload1 (pc' := 1) dX9_sheet_0 rfl ?_
    refine P_callS1 (pc' := 4) dX9_sheet_1 rfl lk_X9_171 (c_X9_isSheet (d := 1) _ (by omega)) (by omega) (Nat.le_of_ble_eq_true rfl) (fun r S' I' hq => ?_)
    obtain ⟨rfl, rfl, rfl⟩ := hq
    refine P_if_eq (tgt := 26) (pc' := 7) dX9_sheet_4 rfl rfl (fun h4 => ?_) (fun h4 => ?_)
    · exact absurd h4 hs
    · refine P_iload2 (pc' := 8) dX9_sheet_7 rfl ?_
      refine P_iconst (pc' := 9) dX9_sheet_8 rfl (v := (-1)) rfl ?_
      refine P_iconst (pc' := 10) dX9_sheet_9 rfl (v := 1) rfl ?_
      refine P_callS3 (pc' := 13) dX9_sheet_10 rfl lk_X9_75 (c_X9_in (d := 0) q (-1) 1) (by omega) (Nat.le_of_ble_eq_true rfl) (fun r S' I' hq => ?_)
      obtain ⟨rfl, rfl, rfl⟩ := hq
      refine P_if_eq (tgt := 26) (pc' := 16) dX9_sheet_13 rfl rfl (fun h13 => ?_) (fun h13 => ?_)
      · exact absurd h13 hq
      · refine P_iload2 (pc' := 17) dX9_sheet_16 rfl ?_
        refine P_if_lt (tgt := 29) (pc' := 20) dX9_sheet_17 rfl rfl (fun h17 => ?_) (fun h17 => ?_)
        · exact absurd h17 q0
        · refine P_iload3 (pc' := 21) dX9_sheet_20 rfl ?_
          refine P_bipush (pc' := 23) dX9_sheet_21 rfl (v := 24) rfl ?_
          refine P_icmp_le (tgt := 29) (pc' := 26) dX9_sheet_23 rfl rfl (fun h23 => ?_) (fun h23 => ?_)
          · refine P_iload2 (pc' := 30) dX9_sheet_29 rfl ?_
            refine P_if_lt (tgt := 40) (pc' := 33) dX9_sheet_30 rfl rfl (fun h30 => ?_) (fun h30 => ?_)
            · exact absurd h30 q0
            · refine P_iload3 (pc' := 34) dX9_sheet_33 rfl ?_
              refine P_if_ge (tgt := 40) (pc' := 37) dX9_sheet_34 rfl rfl (fun h34 => ?_) (fun h34 => ?_)
              · refine P_aload0 (pc' := 41) dX9_sheet_40 rfl ?_
                refine P_getr (pc' := 44) dX9_sheet_41 rfl fl_X9_48 rfl (l_55 hsh) (t_55 hsh) (q_55_23 hsh) ?_
                refine P_iload1 (pc' := 45) dX9_sheet_44 rfl ?_
                refine P_iload2 (pc' := 46) dX9_sheet_45 rfl ?_
                refine P_iast (pc' := 47) dX9_sheet_46 rfl (l_68 hsh) (t_68 hsh) (j := i) rfl (by omega) (by decide) ?_
                refine P_aload0 (pc' := 48) dX9_sheet_47 rfl ?_
                refine P_getr (pc' := 51) dX9_sheet_48 rfl fl_X9_51 rfl (l_55 hsh) (t_55 hsh) (q_55_24 hsh) ?_
                refine P_iload1 (pc' := 52) dX9_sheet_51 rfl ?_
                refine P_iload2 (pc' := 53) dX9_sheet_52 rfl ?_
                refine P_if_ge (tgt := 60) (pc' := 56) dX9_sheet_53 rfl rfl (fun h53 => ?_) (fun h53 => ?_)
                · refine P_iload3 (pc' := 61) dX9_sheet_60 rfl ?_
                  refine P_iast (pc' := 62) dX9_sheet_61 rfl (l_69 hsh) (t_69 hsh) (j := i) rfl (by omega) (by decide) ?_
                  rw [eo, if_neg (Int32.not_lt.mpr h23), if_neg (Int32.not_lt.mpr h34)]
                  exact go v
                · exact absurd (Int32.not_lt.mp q0) h53
              · refine P_ldc (pc' := 39) dX9_sheet_37 rfl co_X9_246 ?_
                refine P_iret dX9_sheet_39 ?_
                exact RO.n (eo.trans ((if_neg (Int32.not_lt.mpr h23)).trans (if_pos (Int32.not_le.mp h34)))) hI
          · refine P_ldc (pc' := 28) dX9_sheet_26 rfl co_X9_83 ?_
            refine P_iret dX9_sheet_28 ?_
            exact RO.n (eo.trans (if_pos (Int32.not_le.mp h23))) hI
theorem s_neg {x : Int32} (h : x = -1 ∨ x = 0 ∨ x = 1) : x = -1 ∨ (¬ x = -1 ∧ 0 ≤ x) := by
  rcases h with z | z | z
  · exact Or.inl z
  · exact Or.inr (by rw [z]; decide)
  · exact Or.inr (by rw [z]; decide)
theorem r_mark {G : GX} {S : Shp} {I T : Mem} {d tn bn : Nat} {tx : Nat → Tx} (hT : KT T tn bn tx) (hsh : SHP S) (hI : RI T I) (s j v : Int32) (hd : 12 ≤ d) : PM G yX9_mark cX9_mark 4 (some .int) d 0 0 [.ref 55, .int s, .int j, .int v] S I (RO S I (oMar T s j v).2 (oMar T s j v).1) := by
  refine PM.of (ls := [some (.ref 55), some (.int s), some (.int j), some (.int v)]) (by decide) rfl (Nat.le_of_ble_eq_true rfl) rfl ?_
  show PW G RX9 "mark" _ _ _ _ _ _ _ _ _ _ _ _
  by_cases hs : wi s 0 3 = 0
  · have eo : oMar T s j v = (-1000000001, T) := if_pos hs
    refine P_iload1 (pc' := 1) dX9_mark_0 rfl ?_
    refine P_callS1 (pc' := 4) dX9_mark_1 rfl lk_X9_171 (c_X9_isSheet (d := 1) s (by omega)) (by omega) (Nat.le_of_ble_eq_true rfl) (fun r S' I' hq => ?_)
    obtain ⟨rfl, rfl, rfl⟩ := hq
    refine P_if_ne (tgt := 10) (pc' := 7) dX9_mark_4 rfl rfl (fun h4 => ?_) (fun h4 => ?_)
    · exact absurd hs h4
    · refine P_ldc (pc' := 9) dX9_mark_7 rfl co_X9_83 ?_
      refine P_iret dX9_mark_9 ?_
      exact RO.n eo hI
  obtain ⟨i, hi, rfl⟩ := wi_b (m := 3) (by decide) hs
  obtain ⟨s1, ⟨n, hn, s2⟩, s3⟩ := hT.2.2.2.2.1 i (by omega)
  have e68 : I 68 i = T 68 i := by rw [hI 68 (by decide) (by decide)]
  have e69 : I 69 i = nI n := by rw [hI 69 (by decide) (by decide)]; exact s2
  have ec : (24 : Int32) * nI i = nI (24 * i) := pk_mul 24 i
  have eo : oMar T (nI i) j v = if T 68 i = -1 then (-1000000011, T) else if wi j 0 (nI n - 1) = 0 then (-1000000013, T) else if T 68 i = 0 then (if v = -1000000005 then (-1000000012, T) else (1, u2 T 70 (24 * i + j.toNatClampNeg) v.toInt16.toInt32)) else if v = -1000000005 then (1, u2 T 70 (24 * i + j.toNatClampNeg) v) else if wi v (-99999) 99999 = 0 then (-1000000001, T) else (1, u2 T 70 (24 * i + j.toNatClampNeg) v) := by unfold oMar; rw [if_neg hs, nI_clamp (by omega), s2]
  rcases s1 with z | z | z
  · rw [z, if_pos rfl] at eo
    rw [z] at e68
    refine P_iload1 (pc' := 1) dX9_mark_0 rfl ?_
    refine P_callS1 (pc' := 4) dX9_mark_1 rfl lk_X9_171 (c_X9_isSheet (d := 1) _ (by omega)) (by omega) (Nat.le_of_ble_eq_true rfl) (fun r S' I' hq => ?_)
    obtain ⟨rfl, rfl, rfl⟩ := hq
    refine P_if_ne (tgt := 10) (pc' := 7) dX9_mark_4 rfl rfl (fun h4 => ?_) (fun h4 => ?_)
    · refine P_aload0 (pc' := 11) dX9_mark_10 rfl ?_
      refine P_getr (pc' := 14) dX9_mark_11 rfl fl_X9_48 rfl (l_55 hsh) (t_55 hsh) (q_55_23 hsh) ?_
      refine P_iload1 (pc' := 15) dX9_mark_14 rfl ?_
      refine P_iald (pc' := 16) dX9_mark_15 rfl (l_68 hsh) (t_68 hsh) (j := i) rfl (by omega) (by decide) ?_
      refine P_as e68 ?_
      refine P_if_ge (tgt := 22) (pc' := 19) dX9_mark_16 rfl rfl (fun h16 => ?_) (fun h16 => ?_)
      · exact absurd h16 (by decide)
      · refine P_ldc (pc' := 21) dX9_mark_19 rfl co_X9_174 ?_
        refine P_iret dX9_mark_21 ?_
        exact RO.n eo hI
    · exact absurd h4 hs
  · rw [z, if_neg (by decide), if_pos rfl] at eo
    rw [z] at e68
    refine P_iload1 (pc' := 1) dX9_mark_0 rfl ?_
    refine P_callS1 (pc' := 4) dX9_mark_1 rfl lk_X9_171 (c_X9_isSheet (d := 1) _ (by omega)) (by omega) (Nat.le_of_ble_eq_true rfl) (fun r S' I' hq => ?_)
    obtain ⟨rfl, rfl, rfl⟩ := hq
    refine P_if_ne (tgt := 10) (pc' := 7) dX9_mark_4 rfl rfl (fun h4 => ?_) (fun h4 => ?_)
    · refine P_aload0 (pc' := 11) dX9_mark_10 rfl ?_
      refine P_getr (pc' := 14) dX9_mark_11 rfl fl_X9_48 rfl (l_55 hsh) (t_55 hsh) (q_55_23 hsh) ?_
      refine P_iload1 (pc' := 15) dX9_mark_14 rfl ?_
      refine P_iald (pc' := 16) dX9_mark_15 rfl (l_68 hsh) (t_68 hsh) (j := i) rfl (by omega) (by decide) ?_
      refine P_as e68 ?_
      refine P_if_ge (tgt := 22) (pc' := 19) dX9_mark_16 rfl rfl (fun h16 => ?_) (fun h16 => ?_)
      · refine P_iload2 (pc' := 23) dX9_mark_22 rfl ?_
        refine P_iconst (pc' := 24) dX9_mark_23 rfl (v := 0) rfl ?_
        refine P_aload0 (pc' := 25) dX9_mark_24 rfl ?_
        refine P_getr (pc' := 28) dX9_mark_25 rfl fl_X9_51 rfl (l_55 hsh) (t_55 hsh) (q_55_24 hsh) ?_
        refine P_iload1 (pc' := 29) dX9_mark_28 rfl ?_
        refine P_iald (pc' := 30) dX9_mark_29 rfl (l_69 hsh) (t_69 hsh) (j := i) rfl (by omega) (by decide) ?_
        refine P_as e69 ?_
        refine P_iconst (pc' := 31) dX9_mark_30 rfl (v := 1) rfl ?_
        refine P_isub (pc' := 32) dX9_mark_31 rfl ?_
        refine P_callS3 (pc' := 35) dX9_mark_32 rfl lk_X9_75 (c_X9_in (d := 0) _ _ _) (by omega) (Nat.le_of_ble_eq_true rfl) (fun r S' I' hq => ?_)
        obtain ⟨rfl, rfl, rfl⟩ := hq
        refine P_if_ne (tgt := 41) (pc' := 38) dX9_mark_35 rfl rfl (fun h35 => ?_) (fun h35 => ?_)
        · obtain ⟨m, hm, rfl⟩ := wi_n (by omega) h35
          rw [nI_clamp (by omega)] at eo
          refine P_aload0 (pc' := 42) dX9_mark_41 rfl ?_
          refine P_getr (pc' := 45) dX9_mark_42 rfl fl_X9_48 rfl (l_55 hsh) (t_55 hsh) (q_55_23 hsh) ?_
          refine P_iload1 (pc' := 46) dX9_mark_45 rfl ?_
          refine P_iald (pc' := 47) dX9_mark_46 rfl (l_68 hsh) (t_68 hsh) (j := i) rfl (by omega) (by decide) ?_
          refine P_as e68 ?_
          refine P_if_ne (tgt := 59) (pc' := 50) dX9_mark_47 rfl rfl (fun h47 => ?_) (fun h47 => ?_)
          · exact absurd rfl h47
          · refine P_iload3 (pc' := 51) dX9_mark_50 rfl ?_
            refine P_ldc (pc' := 53) dX9_mark_51 rfl co_X9_166 ?_
            refine P_icmp_ne (tgt := 59) (pc' := 56) dX9_mark_53 rfl rfl (fun h53 => ?_) (fun h53 => ?_)
            · refine P_aload0 (pc' := 60) dX9_mark_59 rfl ?_
              refine P_getr (pc' := 63) dX9_mark_60 rfl fl_X9_48 rfl (l_55 hsh) (t_55 hsh) (q_55_23 hsh) ?_
              refine P_iload1 (pc' := 64) dX9_mark_63 rfl ?_
              refine P_iald (pc' := 65) dX9_mark_64 rfl (l_68 hsh) (t_68 hsh) (j := i) rfl (by omega) (by decide) ?_
              refine P_as e68 ?_
              refine P_iconst (pc' := 66) dX9_mark_65 rfl (v := 1) rfl ?_
              refine P_icmp_ne (tgt := 89) (pc' := 69) dX9_mark_66 rfl rfl (fun h66 => ?_) (fun h66 => ?_)
              · refine P_aload0 (pc' := 90) dX9_mark_89 rfl ?_
                refine P_getr (pc' := 93) dX9_mark_90 rfl fl_X9_54 rfl (l_55 hsh) (t_55 hsh) (q_55_25 hsh) ?_
                refine P_bipush (pc' := 95) dX9_mark_93 rfl (v := 24) rfl ?_
                refine P_iload1 (pc' := 96) dX9_mark_95 rfl ?_
                refine P_imul (pc' := 97) dX9_mark_96 rfl ?_
                refine P_as ec ?_
                refine P_iload2 (pc' := 98) dX9_mark_97 rfl ?_
                refine P_iadd (pc' := 99) dX9_mark_98 rfl ?_
                refine P_as (nI_add _ _) ?_
                refine P_aload0 (pc' := 100) dX9_mark_99 rfl ?_
                refine P_getr (pc' := 103) dX9_mark_100 rfl fl_X9_48 rfl (l_55 hsh) (t_55 hsh) (q_55_23 hsh) ?_
                refine P_iload1 (pc' := 104) dX9_mark_103 rfl ?_
                refine P_iald (pc' := 105) dX9_mark_104 rfl (l_68 hsh) (t_68 hsh) (j := i) rfl (by omega) (by decide) ?_
                refine P_as e68 ?_
                refine P_if_ne (tgt := 113) (pc' := 108) dX9_mark_105 rfl rfl (fun h105 => ?_) (fun h105 => ?_)
                · exact absurd rfl h105
                · refine P_iload3 (pc' := 109) dX9_mark_108 rfl ?_
                  refine P_i2s (pc' := 110) dX9_mark_109 rfl ?_
                  refine P_goto (tgt := 114) dX9_mark_110 rfl ?_
                  refine P_iast (pc' := 115) dX9_mark_114 rfl (l_70 hsh) (t_70 hsh) (j := 24 * i + m) rfl (by omega) (by decide) ?_
                  refine P_iconst (pc' := 116) dX9_mark_115 rfl (v := 1) rfl ?_
                  refine P_iret dX9_mark_116 ?_
                  exact RO.m (eo.trans ((if_neg h35).trans (if_neg h53))) (RE.rf (hI.u _ _ _)) (fun x hx => u2_row (by omega))
              · exact absurd h66 (by decide)
            · refine P_ldc (pc' := 58) dX9_mark_56 rfl co_X9_121 ?_
              refine P_iret dX9_mark_58 ?_
              exact RO.n (eo.trans ((if_neg h35).trans (if_pos h53))) hI
        · refine P_ldc (pc' := 40) dX9_mark_38 rfl co_X9_247 ?_
          refine P_iret dX9_mark_40 ?_
          exact RO.n (eo.trans (if_pos h35)) hI
      · exact absurd (by decide) h16
    · exact absurd h4 hs
  · rw [z, if_neg (by decide), if_neg (show ¬ (1 : Int32) = 0 by decide)] at eo
    rw [z] at e68
    refine P_iload1 (pc' := 1) dX9_mark_0 rfl ?_
    refine P_callS1 (pc' := 4) dX9_mark_1 rfl lk_X9_171 (c_X9_isSheet (d := 1) _ (by omega)) (by omega) (Nat.le_of_ble_eq_true rfl) (fun r S' I' hq => ?_)
    obtain ⟨rfl, rfl, rfl⟩ := hq
    refine P_if_ne (tgt := 10) (pc' := 7) dX9_mark_4 rfl rfl (fun h4 => ?_) (fun h4 => ?_)
    · refine P_aload0 (pc' := 11) dX9_mark_10 rfl ?_
      refine P_getr (pc' := 14) dX9_mark_11 rfl fl_X9_48 rfl (l_55 hsh) (t_55 hsh) (q_55_23 hsh) ?_
      refine P_iload1 (pc' := 15) dX9_mark_14 rfl ?_
      refine P_iald (pc' := 16) dX9_mark_15 rfl (l_68 hsh) (t_68 hsh) (j := i) rfl (by omega) (by decide) ?_
      refine P_as e68 ?_
      refine P_if_ge (tgt := 22) (pc' := 19) dX9_mark_16 rfl rfl (fun h16 => ?_) (fun h16 => ?_)
      · refine P_iload2 (pc' := 23) dX9_mark_22 rfl ?_
        refine P_iconst (pc' := 24) dX9_mark_23 rfl (v := 0) rfl ?_
        refine P_aload0 (pc' := 25) dX9_mark_24 rfl ?_
        refine P_getr (pc' := 28) dX9_mark_25 rfl fl_X9_51 rfl (l_55 hsh) (t_55 hsh) (q_55_24 hsh) ?_
        refine P_iload1 (pc' := 29) dX9_mark_28 rfl ?_
        refine P_iald (pc' := 30) dX9_mark_29 rfl (l_69 hsh) (t_69 hsh) (j := i) rfl (by omega) (by decide) ?_
        refine P_as e69 ?_
        refine P_iconst (pc' := 31) dX9_mark_30 rfl (v := 1) rfl ?_
        refine P_isub (pc' := 32) dX9_mark_31 rfl ?_
        refine P_callS3 (pc' := 35) dX9_mark_32 rfl lk_X9_75 (c_X9_in (d := 0) _ _ _) (by omega) (Nat.le_of_ble_eq_true rfl) (fun r S' I' hq => ?_)
        obtain ⟨rfl, rfl, rfl⟩ := hq
        refine P_if_ne (tgt := 41) (pc' := 38) dX9_mark_35 rfl rfl (fun h35 => ?_) (fun h35 => ?_)
        · obtain ⟨m, hm, rfl⟩ := wi_n (by omega) h35
          rw [nI_clamp (by omega)] at eo
          refine P_aload0 (pc' := 42) dX9_mark_41 rfl ?_
          refine P_getr (pc' := 45) dX9_mark_42 rfl fl_X9_48 rfl (l_55 hsh) (t_55 hsh) (q_55_23 hsh) ?_
          refine P_iload1 (pc' := 46) dX9_mark_45 rfl ?_
          refine P_iald (pc' := 47) dX9_mark_46 rfl (l_68 hsh) (t_68 hsh) (j := i) rfl (by omega) (by decide) ?_
          refine P_as e68 ?_
          refine P_if_ne (tgt := 59) (pc' := 50) dX9_mark_47 rfl rfl (fun h47 => ?_) (fun h47 => ?_)
          · refine P_aload0 (pc' := 60) dX9_mark_59 rfl ?_
            refine P_getr (pc' := 63) dX9_mark_60 rfl fl_X9_48 rfl (l_55 hsh) (t_55 hsh) (q_55_23 hsh) ?_
            refine P_iload1 (pc' := 64) dX9_mark_63 rfl ?_
            refine P_iald (pc' := 65) dX9_mark_64 rfl (l_68 hsh) (t_68 hsh) (j := i) rfl (by omega) (by decide) ?_
            refine P_as e68 ?_
            refine P_iconst (pc' := 66) dX9_mark_65 rfl (v := 1) rfl ?_
            refine P_icmp_ne (tgt := 89) (pc' := 69) dX9_mark_66 rfl rfl (fun h66 => ?_) (fun h66 => ?_)
            · exact absurd rfl h66
            · refine P_iload3 (pc' := 70) dX9_mark_69 rfl ?_
              refine P_ldc (pc' := 72) dX9_mark_70 rfl co_X9_166 ?_
              refine P_icmp_eq (tgt := 89) (pc' := 75) dX9_mark_72 rfl rfl (fun h72 => ?_) (fun h72 => ?_)
              · refine P_aload0 (pc' := 90) dX9_mark_89 rfl ?_
                refine P_getr (pc' := 93) dX9_mark_90 rfl fl_X9_54 rfl (l_55 hsh) (t_55 hsh) (q_55_25 hsh) ?_
                refine P_bipush (pc' := 95) dX9_mark_93 rfl (v := 24) rfl ?_
                refine P_iload1 (pc' := 96) dX9_mark_95 rfl ?_
                refine P_imul (pc' := 97) dX9_mark_96 rfl ?_
                refine P_as ec ?_
                refine P_iload2 (pc' := 98) dX9_mark_97 rfl ?_
                refine P_iadd (pc' := 99) dX9_mark_98 rfl ?_
                refine P_as (nI_add _ _) ?_
                refine P_aload0 (pc' := 100) dX9_mark_99 rfl ?_
                refine P_getr (pc' := 103) dX9_mark_100 rfl fl_X9_48 rfl (l_55 hsh) (t_55 hsh) (q_55_23 hsh) ?_
                refine P_iload1 (pc' := 104) dX9_mark_103 rfl ?_
                refine P_iald (pc' := 105) dX9_mark_104 rfl (l_68 hsh) (t_68 hsh) (j := i) rfl (by omega) (by decide) ?_
                refine P_as e68 ?_
                refine P_if_ne (tgt := 113) (pc' := 108) dX9_mark_105 rfl rfl (fun h105 => ?_) (fun h105 => ?_)
                · refine P_iload3 (pc' := 114) dX9_mark_113 rfl ?_
                  refine P_iast (pc' := 115) dX9_mark_114 rfl (l_70 hsh) (t_70 hsh) (j := 24 * i + m) rfl (by omega) (by decide) ?_
                  refine P_iconst (pc' := 116) dX9_mark_115 rfl (v := 1) rfl ?_
                  refine P_iret dX9_mark_116 ?_
                  first
                    | exact RO.m (eo.trans ((if_neg h35).trans (if_pos h72))) (RE.rf (hI.u _ _ _)) (fun x hx => u2_row (by omega))
                    | exact RO.m (eo.trans ((if_neg h35).trans ((if_neg h72).trans (if_neg h83)))) (RE.rf (hI.u _ _ _)) (fun x hx => u2_row (by omega))
                · exact absurd h105 (by decide)
              · refine P_iload3 (pc' := 76) dX9_mark_75 rfl ?_
                refine P_ldc (pc' := 78) dX9_mark_76 rfl co_X9_248 ?_
                refine P_ldc (pc' := 80) dX9_mark_78 rfl co_X9_249 ?_
                refine P_callS3 (pc' := 83) dX9_mark_80 rfl lk_X9_75 (c_X9_in (d := 0) v (-99999) 99999) (by omega) (Nat.le_of_ble_eq_true rfl) (fun r S' I' hq => ?_)
                obtain ⟨rfl, rfl, rfl⟩ := hq
                refine P_if_ne (tgt := 89) (pc' := 86) dX9_mark_83 rfl rfl (fun h83 => ?_) (fun h83 => ?_)
                · refine P_aload0 (pc' := 90) dX9_mark_89 rfl ?_
                  refine P_getr (pc' := 93) dX9_mark_90 rfl fl_X9_54 rfl (l_55 hsh) (t_55 hsh) (q_55_25 hsh) ?_
                  refine P_bipush (pc' := 95) dX9_mark_93 rfl (v := 24) rfl ?_
                  refine P_iload1 (pc' := 96) dX9_mark_95 rfl ?_
                  refine P_imul (pc' := 97) dX9_mark_96 rfl ?_
                  refine P_as ec ?_
                  refine P_iload2 (pc' := 98) dX9_mark_97 rfl ?_
                  refine P_iadd (pc' := 99) dX9_mark_98 rfl ?_
                  refine P_as (nI_add _ _) ?_
                  refine P_aload0 (pc' := 100) dX9_mark_99 rfl ?_
                  refine P_getr (pc' := 103) dX9_mark_100 rfl fl_X9_48 rfl (l_55 hsh) (t_55 hsh) (q_55_23 hsh) ?_
                  refine P_iload1 (pc' := 104) dX9_mark_103 rfl ?_
                  refine P_iald (pc' := 105) dX9_mark_104 rfl (l_68 hsh) (t_68 hsh) (j := i) rfl (by omega) (by decide) ?_
                  refine P_as e68 ?_
                  refine P_if_ne (tgt := 113) (pc' := 108) dX9_mark_105 rfl rfl (fun h105 => ?_) (fun h105 => ?_)
                  · refine P_iload3 (pc' := 114) dX9_mark_113 rfl ?_
                    refine P_iast (pc' := 115) dX9_mark_114 rfl (l_70 hsh) (t_70 hsh) (j := 24 * i + m) rfl (by omega) (by decide) ?_
                    refine P_iconst (pc' := 116) dX9_mark_115 rfl (v := 1) rfl ?_
                    refine P_iret dX9_mark_116 ?_
                    first
                      | exact RO.m (eo.trans ((if_neg h35).trans (if_pos h72))) (RE.rf (hI.u _ _ _)) (fun x hx => u2_row (by omega))
                      | exact RO.m (eo.trans ((if_neg h35).trans ((if_neg h72).trans (if_neg h83)))) (RE.rf (hI.u _ _ _)) (fun x hx => u2_row (by omega))
                  · exact absurd h105 (by decide)
                · refine P_ldc (pc' := 88) dX9_mark_86 rfl co_X9_83 ?_
                  refine P_iret dX9_mark_88 ?_
                  exact RO.n (eo.trans ((if_neg h35).trans ((if_neg h72).trans (if_pos h83)))) hI
          · exact absurd h47 (by decide)
        · refine P_ldc (pc' := 40) dX9_mark_38 rfl co_X9_247 ?_
          refine P_iret dX9_mark_40 ?_
          exact RO.n (eo.trans (if_pos h35)) hI
      · exact absurd (by decide) h16
    · exact absurd h4 hs
theorem lp_X9_reads {G : GX} {S : Shp} {I T : Mem} {d i n m : Nat} {v : Int32} (hsh : SHP S) (hI : RI T I) (hi : i < 4) (hm : m ≤ 24) (em : I 69 i = nI m) (hn : n ≤ 8) (hz : I 56 1 = nI n) (hd : 12 ≤ d) : ∀ (k j : Nat) (x3 : Option Value), j + k = m → rdF (aR T) (fun j => T 70 (24 * i + j)) n k j = v → PW G RX9 "reads" cX9_reads 4 (some .int) d 0 0 (RO S I T v) 24 [some (.ref 55), some (.int (nI i)), some (.int (nI j)), x3] [] S I := by
  have e70 : I 70 = T 70 := hI 70 (by decide) (by decide)
  have ec : (24 : Int32) * nI i = nI (24 * i) := pk_mul 24 i
  intro k
  induction k with
  | zero =>
    intro j x3 hj hv
    have hv : (-1000000005 : Int32) = v := hv
    refine P_iload2 (pc' := 25) dX9_reads_24 rfl ?_
    refine P_aload0 (pc' := 26) dX9_reads_25 rfl ?_
    refine P_getr (pc' := 29) dX9_reads_26 rfl fl_X9_51 rfl (l_55 hsh) (t_55 hsh) (q_55_24 hsh) ?_
    refine P_iload1 (pc' := 30) dX9_reads_29 rfl ?_
    refine P_iald (pc' := 31) dX9_reads_30 rfl (l_69 hsh) (t_69 hsh) (j := i) rfl (by omega) (by decide) ?_
    refine P_as em ?_
    refine P_icmp_ge (tgt := 78) (pc' := 34) dX9_reads_31 rfl rfl (fun h31 => ?_) (fun h31 => ?_)
    · refine P_ldc (pc' := 80) dX9_reads_78 rfl co_X9_166 ?_
      refine P_iret dX9_reads_80 ?_
      rw [← hv]
      exact RO.id hI
    · exact absurd (nI_le (by omega) (by omega)) h31
  | succ k ih =>
    intro j x3 hj hv
    rw [rdF_s] at hv
    refine P_iload2 (pc' := 25) dX9_reads_24 rfl ?_
    refine P_aload0 (pc' := 26) dX9_reads_25 rfl ?_
    refine P_getr (pc' := 29) dX9_reads_26 rfl fl_X9_51 rfl (l_55 hsh) (t_55 hsh) (q_55_24 hsh) ?_
    refine P_iload1 (pc' := 30) dX9_reads_29 rfl ?_
    refine P_iald (pc' := 31) dX9_reads_30 rfl (l_69 hsh) (t_69 hsh) (j := i) rfl (by omega) (by decide) ?_
    refine P_as em ?_
    refine P_icmp_ge (tgt := 78) (pc' := 34) dX9_reads_31 rfl rfl (fun h31 => ?_) (fun h31 => ?_)
    · exact absurd h31 (nI_ge (by omega) (by omega))
    · refine P_aload0 (pc' := 35) dX9_reads_34 rfl ?_
      refine P_getr (pc' := 38) dX9_reads_35 rfl fl_X9_54 rfl (l_55 hsh) (t_55 hsh) (q_55_25 hsh) ?_
      refine P_bipush (pc' := 40) dX9_reads_38 rfl (v := 24) rfl ?_
      refine P_iload1 (pc' := 41) dX9_reads_40 rfl ?_
      refine P_imul (pc' := 42) dX9_reads_41 rfl ?_
      refine P_as ec ?_
      refine P_iload2 (pc' := 43) dX9_reads_42 rfl ?_
      refine P_iadd (pc' := 44) dX9_reads_43 rfl ?_
      refine P_as (nI_add _ _) ?_
      refine P_iald (pc' := 45) dX9_reads_44 rfl (l_70 hsh) (t_70 hsh) (j := 24 * i + j) rfl (by omega) (by decide) ?_
      rw [e70]
      refine P_istore3 (pc' := 46) dX9_reads_45 rfl (by decide) rfl ?_
      refine P_iload3 (pc' := 47) dX9_reads_46 rfl ?_
      refine P_ldc (pc' := 49) dX9_reads_47 rfl co_X9_166 ?_
      refine P_icmp_eq (tgt := 72) (pc' := 52) dX9_reads_49 rfl rfl (fun h49 => ?_) (fun h49 => ?_)
      · refine P_iinc2 (pc' := 75) dX9_reads_72 rfl (nI_1 j) (by decide) rfl ?_
        refine P_goto (tgt := 24) dX9_reads_75 rfl ?_
        first
          | exact ih (j + 1) _ (by omega) (by rw [if_pos h49] at hv; exact hv)
          | exact ih (j + 1) _ (by omega) (by rw [if_neg h49, if_pos (wi_f (by omega) (by omega) h57), if_pos h67] at hv; exact hv)
      · refine P_aload0 (pc' := 53) dX9_reads_52 rfl ?_
        refine P_iload2 (pc' := 54) dX9_reads_53 rfl ?_
        refine P_callV1 (pc' := 57) dX9_reads_54 rfl lk_X9_93 (l_55 hsh) (t_55 hsh) (c_X9_isBeggar (d := 1) (nI j) hsh hz (by omega)) (by omega) (Nat.le_of_ble_eq_true rfl) (fun r S' I' hq => ?_)
        obtain ⟨rfl, rfl, rfl⟩ := hq
        refine P_if_eq (tgt := 70) (pc' := 60) dX9_reads_57 rfl rfl (fun h57 => ?_) (fun h57 => ?_)
        · refine P_iload2 (pc' := 71) dX9_reads_70 rfl ?_
          refine P_iret dX9_reads_71 ?_
          first
            | (rw [if_neg h49, if_neg (by have := wi_e (by omega) h57; omega)] at hv; rw [← hv]; exact RO.id hI)
            | (rw [if_neg h49, if_pos (wi_f (by omega) (by omega) h57), if_neg h67] at hv; rw [← hv]; exact RO.id hI)
        · refine P_iload3 (pc' := 61) dX9_reads_60 rfl ?_
          refine P_aload0 (pc' := 62) dX9_reads_61 rfl ?_
          refine P_iload2 (pc' := 63) dX9_reads_62 rfl ?_
          refine P_iconst (pc' := 64) dX9_reads_63 rfl (v := 3) rfl ?_
          refine P_callV2 (pc' := 67) dX9_reads_64 rfl lk_X9_89 (l_55 hsh) (t_55 hsh) (c_X9_of (d := 0) (k := 3) hsh (by have := wi_f (by omega) (by omega) h57; omega) (by omega)) (by omega) (Nat.le_of_ble_eq_true rfl) (fun r S' I' hq => ?_)
          obtain ⟨rfl, rfl, rfl⟩ := hq
          refine P_as (y := aR T (19 + 5 * j)) ((hI.r (by have := wi_f (by omega) (by omega) h57; omega)).trans (by rw [show 16 + 5 * j + 3 = 19 + 5 * j by omega])) ?_
          refine P_icmp_eq (tgt := 72) (pc' := 70) dX9_reads_67 rfl rfl (fun h67 => ?_) (fun h67 => ?_)
          · refine P_iinc2 (pc' := 75) dX9_reads_72 rfl (nI_1 j) (by decide) rfl ?_
            refine P_goto (tgt := 24) dX9_reads_75 rfl ?_
            first
              | exact ih (j + 1) _ (by omega) (by rw [if_pos h49] at hv; exact hv)
              | exact ih (j + 1) _ (by omega) (by rw [if_neg h49, if_pos (wi_f (by omega) (by omega) h57), if_pos h67] at hv; exact hv)
          · refine P_iload2 (pc' := 71) dX9_reads_70 rfl ?_
            refine P_iret dX9_reads_71 ?_
            first
              | (rw [if_neg h49, if_neg (by have := wi_e (by omega) h57; omega)] at hv; rw [← hv]; exact RO.id hI)
              | (rw [if_neg h49, if_pos (wi_f (by omega) (by omega) h57), if_neg h67] at hv; rw [← hv]; exact RO.id hI)
theorem r_reads {G : GX} {S : Shp} {I T : Mem} {d tn bn : Nat} {tx : Nat → Tx} (hT : KT T tn bn tx) (hsh : SHP S) (hI : RI T I) (s : Int32) (hd : 12 ≤ d) : PM G yX9_reads cX9_reads 4 (some .int) d 0 0 [.ref 55, .int s] S I (RO S I T (vRds T s)) := by
  obtain ⟨n, hn, hw, eR, hz, hr, hrd⟩ := hT.n hI
  refine PM.of (ls := [some (.ref 55), some (.int s), none, none]) (by decide) rfl (Nat.le_of_ble_eq_true rfl) rfl ?_
  show PW G RX9 "reads" _ _ _ _ _ _ _ _ _ _ _ _
  by_cases hs : wi s 0 3 = 0
  · rw [show vRds T s = -1000000001 from if_pos hs]
    refine P_iload1 (pc' := 1) dX9_reads_0 rfl ?_
    refine P_callS1 (pc' := 4) dX9_reads_1 rfl lk_X9_171 (c_X9_isSheet (d := 1) s (by omega)) (by omega) (Nat.le_of_ble_eq_true rfl) (fun r S' I' hq => ?_)
    obtain ⟨rfl, rfl, rfl⟩ := hq
    refine P_if_ne (tgt := 10) (pc' := 7) dX9_reads_4 rfl rfl (fun h4 => ?_) (fun h4 => ?_)
    · exact absurd hs h4
    · refine P_ldc (pc' := 9) dX9_reads_7 rfl co_X9_83 ?_
      refine P_iret dX9_reads_9 ?_
      exact RO.id hI
  obtain ⟨i, hi, rfl⟩ := wi_b (m := 3) (by decide) hs
  obtain ⟨s1, ⟨m, hm, s2⟩, s3⟩ := hT.2.2.2.2.1 i (by omega)
  have e68 : I 68 i = T 68 i := by rw [hI 68 (by decide) (by decide)]
  have e69 : I 69 i = nI m := by rw [hI 69 (by decide) (by decide)]; exact s2
  have eo : vRds T (nI i) = if T 68 i = -1 then -1000000011 else rdF (aR T) (fun j => T 70 (24 * i + j)) n m 0 := by unfold vRds; rw [if_neg hs, nI_clamp (by omega), s2, nI_clamp (by omega), hw.1, nI_clamp (by omega)]
  rw [eo]
  rcases s_neg s1 with z | ⟨z1, z2⟩
  · rw [if_pos z]
    refine P_iload1 (pc' := 1) dX9_reads_0 rfl ?_
    refine P_callS1 (pc' := 4) dX9_reads_1 rfl lk_X9_171 (c_X9_isSheet (d := 1) _ (by omega)) (by omega) (Nat.le_of_ble_eq_true rfl) (fun r S' I' hq => ?_)
    obtain ⟨rfl, rfl, rfl⟩ := hq
    refine P_if_ne (tgt := 10) (pc' := 7) dX9_reads_4 rfl rfl (fun h4 => ?_) (fun h4 => ?_)
    · refine P_aload0 (pc' := 11) dX9_reads_10 rfl ?_
      refine P_getr (pc' := 14) dX9_reads_11 rfl fl_X9_48 rfl (l_55 hsh) (t_55 hsh) (q_55_23 hsh) ?_
      refine P_iload1 (pc' := 15) dX9_reads_14 rfl ?_
      refine P_iald (pc' := 16) dX9_reads_15 rfl (l_68 hsh) (t_68 hsh) (j := i) rfl (by omega) (by decide) ?_
      refine P_as (e68.trans z) ?_
      refine P_if_ge (tgt := 22) (pc' := 19) dX9_reads_16 rfl rfl (fun h16 => ?_) (fun h16 => ?_)
      · exact absurd h16 (by decide)
      · refine P_ldc (pc' := 21) dX9_reads_19 rfl co_X9_174 ?_
        refine P_iret dX9_reads_21 ?_
        exact RO.id hI
    · exact absurd h4 hs
  · rw [if_neg z1]
    refine P_iload1 (pc' := 1) dX9_reads_0 rfl ?_
    refine P_callS1 (pc' := 4) dX9_reads_1 rfl lk_X9_171 (c_X9_isSheet (d := 1) _ (by omega)) (by omega) (Nat.le_of_ble_eq_true rfl) (fun r S' I' hq => ?_)
    obtain ⟨rfl, rfl, rfl⟩ := hq
    refine P_if_ne (tgt := 10) (pc' := 7) dX9_reads_4 rfl rfl (fun h4 => ?_) (fun h4 => ?_)
    · refine P_aload0 (pc' := 11) dX9_reads_10 rfl ?_
      refine P_getr (pc' := 14) dX9_reads_11 rfl fl_X9_48 rfl (l_55 hsh) (t_55 hsh) (q_55_23 hsh) ?_
      refine P_iload1 (pc' := 15) dX9_reads_14 rfl ?_
      refine P_iald (pc' := 16) dX9_reads_15 rfl (l_68 hsh) (t_68 hsh) (j := i) rfl (by omega) (by decide) ?_
      refine P_as e68 ?_
      refine P_if_ge (tgt := 22) (pc' := 19) dX9_reads_16 rfl rfl (fun h16 => ?_) (fun h16 => ?_)
      · refine P_iconst (pc' := 23) dX9_reads_22 rfl (v := 0) rfl ?_
        refine P_istore2 (pc' := 24) dX9_reads_23 rfl (by decide) rfl ?_
        exact lp_X9_reads hsh hI (by omega) hm e69 hn hz hd m 0 _ (by omega) rfl
      · exact absurd z2 h16
    · exact absurd h4 hs
theorem lp_X9_pour {G : GX} {S : Shp} {I T : Mem} {d i m : Nat} {R : Nat × (Nat → Int32)} (hsh : SHP S) (hI : RI T I) (hi : i < 4) (hm : m ≤ 24) (em : I 69 i = nI m) (hd : 12 ≤ d) : ∀ (k c y : Nat) (A : Nat → Int32) (M : Mem) (x4 x5 : Option Value), c + k = min m 8 → lc1 x4 = true → PsR I A M → poF (fun j => T 70 (24 * i + j)) k c (y, A) = R → PW G RX9 "pour" cX9_pour 6 (some .int) d 0 0 (RO S I (nw T R.2) (nI R.1)) 26 [some (.ref 55), some (.int (nI i)), some (.int (nI y)), some (.int (nI c)), x4, x5] [] S M := by
  have ec : (24 : Int32) * nI i = nI (24 * i) := pk_mul 24 i
  intro k
  induction k with
  | zero =>
    intro c y A M x4 x5 hc hx4 hp hR
    have hR : (y, A) = R := hR
    rw [← hR]
    have e69 : M 69 i = nI m := by rw [hp.2.1 69 (by decide) (by decide) (by decide)]; exact em
    refine P_iload3 (pc' := 27) dX9_pour_26 rfl ?_
    refine P_aload0 (pc' := 28) dX9_pour_27 rfl ?_
    refine P_getr (pc' := 31) dX9_pour_28 rfl fl_X9_51 rfl (l_55 hsh) (t_55 hsh) (q_55_24 hsh) ?_
    refine P_iload1 (pc' := 32) dX9_pour_31 rfl ?_
    refine P_iald (pc' := 33) dX9_pour_32 rfl (l_69 hsh) (t_69 hsh) (j := i) rfl (by omega) (by decide) ?_
    refine P_as e69 ?_
    refine P_icmp_ge (tgt := 113) (pc' := 36) dX9_pour_33 rfl rfl (fun h33 => ?_) (fun h33 => ?_)
    · refine P_iload2 (pc' := 114) dX9_pour_113 rfl ?_
      refine P_iret dX9_pour_114 ?_
      exact RO.ps hI hp
    · refine P_iload3 (pc' := 37) dX9_pour_36 rfl ?_
      refine P_bipush (pc' := 39) dX9_pour_37 rfl (v := 8) rfl ?_
      refine P_icmp_ge (tgt := 113) (pc' := 42) dX9_pour_39 rfl rfl (fun h39 => ?_) (fun h39 => ?_)
      · refine P_iload2 (pc' := 114) dX9_pour_113 rfl ?_
        refine P_iret dX9_pour_114 ?_
        exact RO.ps hI hp
      · exact absurd (nI_le (a := 8) (b := c) (by have := g0 h33 (by omega) (by omega); omega) (by omega)) h39
  | succ k ih =>
    intro c y A M x4 x5 hc hx4 hp hR
    rw [poF_s] at hR
    have e69 : M 69 i = nI m := by rw [hp.2.1 69 (by decide) (by decide) (by decide)]; exact em
    have e70 : M 70 = T 70 := by rw [hp.2.1 70 (by decide) (by decide) (by decide)]; exact hI 70 (by decide) (by decide)
    have e8 : M 56 (8 + c) = A (8 + c) := by rw [aR_rd M (by omega), hp.1]
    by_cases q : T 70 (24 * i + c) = -1000000005
    · rw [show poS (fun j => T 70 (24 * i + j)) c (y, A) = (y, A) from if_pos q] at hR
      refine P_iload3 (pc' := 27) dX9_pour_26 rfl ?_
      refine P_aload0 (pc' := 28) dX9_pour_27 rfl ?_
      refine P_getr (pc' := 31) dX9_pour_28 rfl fl_X9_51 rfl (l_55 hsh) (t_55 hsh) (q_55_24 hsh) ?_
      refine P_iload1 (pc' := 32) dX9_pour_31 rfl ?_
      refine P_iald (pc' := 33) dX9_pour_32 rfl (l_69 hsh) (t_69 hsh) (j := i) rfl (by omega) (by decide) ?_
      refine P_as e69 ?_
      refine P_icmp_ge (tgt := 113) (pc' := 36) dX9_pour_33 rfl rfl (fun h33 => ?_) (fun h33 => ?_)
      · exact absurd h33 (nI_ge (by omega) (by omega))
      · refine P_iload3 (pc' := 37) dX9_pour_36 rfl ?_
        refine P_bipush (pc' := 39) dX9_pour_37 rfl (v := 8) rfl ?_
        refine P_icmp_ge (tgt := 113) (pc' := 42) dX9_pour_39 rfl rfl (fun h39 => ?_) (fun h39 => ?_)
        · exact absurd h39 (nI_ge (a := c) (b := 8) (by omega) (by decide))
        · refine P_aload0 (pc' := 43) dX9_pour_42 rfl ?_
          refine P_getr (pc' := 46) dX9_pour_43 rfl fl_X9_54 rfl (l_55 hsh) (t_55 hsh) (q_55_25 hsh) ?_
          refine P_bipush (pc' := 48) dX9_pour_46 rfl (v := 24) rfl ?_
          refine P_iload1 (pc' := 49) dX9_pour_48 rfl ?_
          refine P_imul (pc' := 50) dX9_pour_49 rfl ?_
          refine P_as ec ?_
          refine P_iload3 (pc' := 51) dX9_pour_50 rfl ?_
          refine P_iadd (pc' := 52) dX9_pour_51 rfl ?_
          refine P_as (nI_add _ _) ?_
          refine P_iald (pc' := 53) dX9_pour_52 rfl (l_70 hsh) (t_70 hsh) (j := 24 * i + c) rfl (by omega) (by decide) ?_
          rw [e70]
          refine P_istore4 (pc' := 55) dX9_pour_53 rfl (by decide) rfl ?_
          refine P_iload4 (pc' := 57) dX9_pour_55 rfl ?_
          refine P_ldc (pc' := 59) dX9_pour_57 rfl co_X9_166 ?_
          refine P_icmp_ne (tgt := 74) (pc' := 62) dX9_pour_59 rfl rfl (fun h59 => ?_) (fun h59 => ?_)
          · exact absurd q h59
          · refine P_aload0 (pc' := 63) dX9_pour_62 rfl ?_
            refine P_getr (pc' := 66) dX9_pour_63 rfl fl_X9_9 rfl (l_55 hsh) (t_55 hsh) (q_55_0 hsh) ?_
            refine P_bipush (pc' := 68) dX9_pour_66 rfl (v := 8) rfl ?_
            refine P_iload3 (pc' := 69) dX9_pour_68 rfl ?_
            refine P_iadd (pc' := 70) dX9_pour_69 rfl ?_
            refine P_as (nI_add 8 c) ?_
            refine P_iald (pc' := 71) dX9_pour_70 rfl (l_56 hsh) (t_56 hsh) (j := 8 + c) rfl (by omega) (by decide) ?_
            refine P_as e8 ?_
            refine P_goto (tgt := 82) dX9_pour_71 rfl ?_
            refine P_istore5 (pc' := 84) dX9_pour_82 rfl (by decide) rfl ?_
            refine P_iload2 (pc' := 85) dX9_pour_84 rfl ?_
            refine P_aload0 (pc' := 86) dX9_pour_85 rfl ?_
            refine P_bipush (pc' := 88) dX9_pour_86 rfl (v := 8) rfl ?_
            refine P_iload3 (pc' := 89) dX9_pour_88 rfl ?_
            refine P_iadd (pc' := 90) dX9_pour_89 rfl ?_
            refine P_as (nI_add 8 c) ?_
            refine P_iload5 (pc' := 92) dX9_pour_90 rfl ?_
            refine P_callV2 (pc' := 95) dX9_pour_92 rfl lk_X9_122 (l_55 hsh) (t_55 hsh) (c_X9_becomes (d := 0) (i := 8 + c) hsh (by omega)) (by omega) (Nat.le_of_ble_eq_true rfl) (fun r S' I' hq => ?_)
            obtain ⟨rfl, rfl, rfl⟩ := hq
            refine P_as e8 ?_
            refine P_iload5 (pc' := 97) dX9_pour_95 rfl ?_
            refine P_icmp_ne (tgt := 104) (pc' := 100) dX9_pour_97 rfl rfl (fun h97 => ?_) (fun h97 => ?_)
            · exact absurd rfl h97
            · refine P_iconst (pc' := 101) dX9_pour_100 rfl (v := 0) rfl ?_
              refine P_goto (tgt := 105) dX9_pour_101 rfl ?_
              refine P_iadd (pc' := 106) dX9_pour_105 rfl ?_
              first
                | refine P_as (show nI y + 0 = nI y from Int32.add_zero _) ?_
                | refine P_as (nI_1 y) ?_
              refine P_istore2 (pc' := 107) dX9_pour_106 rfl (by decide) rfl ?_
              refine P_iinc3 (pc' := 110) dX9_pour_107 rfl (nI_1 c) (by decide) rfl ?_
              refine P_goto (tgt := 26) dX9_pour_110 rfl ?_
              have p2 := PsR.put (I := M) (i := 8 + c) (v := A (8 + c)) (by omega)
              rw [hp.1, upd_id] at p2
              exact ih (c + 1) y A _ _ _ (by omega) (by rfl) (hp.tr p2) hR
    · have ps : poS (fun j => T 70 (24 * i + j)) c (y, A) = if A (8 + c) = hl (T 70 (24 * i + c)) 0 9 then (y, A) else (y + 1, upd A (8 + c) (hl (T 70 (24 * i + c)) 0 9)) := if_neg q
      rw [ps] at hR
      refine P_iload3 (pc' := 27) dX9_pour_26 rfl ?_
      refine P_aload0 (pc' := 28) dX9_pour_27 rfl ?_
      refine P_getr (pc' := 31) dX9_pour_28 rfl fl_X9_51 rfl (l_55 hsh) (t_55 hsh) (q_55_24 hsh) ?_
      refine P_iload1 (pc' := 32) dX9_pour_31 rfl ?_
      refine P_iald (pc' := 33) dX9_pour_32 rfl (l_69 hsh) (t_69 hsh) (j := i) rfl (by omega) (by decide) ?_
      refine P_as e69 ?_
      refine P_icmp_ge (tgt := 113) (pc' := 36) dX9_pour_33 rfl rfl (fun h33 => ?_) (fun h33 => ?_)
      · exact absurd h33 (nI_ge (by omega) (by omega))
      · refine P_iload3 (pc' := 37) dX9_pour_36 rfl ?_
        refine P_bipush (pc' := 39) dX9_pour_37 rfl (v := 8) rfl ?_
        refine P_icmp_ge (tgt := 113) (pc' := 42) dX9_pour_39 rfl rfl (fun h39 => ?_) (fun h39 => ?_)
        · exact absurd h39 (nI_ge (a := c) (b := 8) (by omega) (by decide))
        · refine P_aload0 (pc' := 43) dX9_pour_42 rfl ?_
          refine P_getr (pc' := 46) dX9_pour_43 rfl fl_X9_54 rfl (l_55 hsh) (t_55 hsh) (q_55_25 hsh) ?_
          refine P_bipush (pc' := 48) dX9_pour_46 rfl (v := 24) rfl ?_
          refine P_iload1 (pc' := 49) dX9_pour_48 rfl ?_
          refine P_imul (pc' := 50) dX9_pour_49 rfl ?_
          refine P_as ec ?_
          refine P_iload3 (pc' := 51) dX9_pour_50 rfl ?_
          refine P_iadd (pc' := 52) dX9_pour_51 rfl ?_
          refine P_as (nI_add _ _) ?_
          refine P_iald (pc' := 53) dX9_pour_52 rfl (l_70 hsh) (t_70 hsh) (j := 24 * i + c) rfl (by omega) (by decide) ?_
          rw [e70]
          refine P_istore4 (pc' := 55) dX9_pour_53 rfl (by decide) rfl ?_
          refine P_iload4 (pc' := 57) dX9_pour_55 rfl ?_
          refine P_ldc (pc' := 59) dX9_pour_57 rfl co_X9_166 ?_
          refine P_icmp_ne (tgt := 74) (pc' := 62) dX9_pour_59 rfl rfl (fun h59 => ?_) (fun h59 => ?_)
          · refine P_iload4 (pc' := 76) dX9_pour_74 rfl ?_
            refine P_iconst (pc' := 77) dX9_pour_76 rfl (v := 0) rfl ?_
            refine P_bipush (pc' := 79) dX9_pour_77 rfl (v := 9) rfl ?_
            refine P_callS3 (pc' := 82) dX9_pour_79 rfl lk_X9_110 (c_X9_within (d := 0) _ 0 9) (by omega) (Nat.le_of_ble_eq_true rfl) (fun r S' I' hq => ?_)
            obtain ⟨rfl, rfl, rfl⟩ := hq
            refine P_istore5 (pc' := 84) dX9_pour_82 rfl (by decide) rfl ?_
            refine P_iload2 (pc' := 85) dX9_pour_84 rfl ?_
            refine P_aload0 (pc' := 86) dX9_pour_85 rfl ?_
            refine P_bipush (pc' := 88) dX9_pour_86 rfl (v := 8) rfl ?_
            refine P_iload3 (pc' := 89) dX9_pour_88 rfl ?_
            refine P_iadd (pc' := 90) dX9_pour_89 rfl ?_
            refine P_as (nI_add 8 c) ?_
            refine P_iload5 (pc' := 92) dX9_pour_90 rfl ?_
            refine P_callV2 (pc' := 95) dX9_pour_92 rfl lk_X9_122 (l_55 hsh) (t_55 hsh) (c_X9_becomes (d := 0) (i := 8 + c) hsh (by omega)) (by omega) (Nat.le_of_ble_eq_true rfl) (fun r S' I' hq => ?_)
            obtain ⟨rfl, rfl, rfl⟩ := hq
            refine P_as e8 ?_
            refine P_iload5 (pc' := 97) dX9_pour_95 rfl ?_
            refine P_icmp_ne (tgt := 104) (pc' := 100) dX9_pour_97 rfl rfl (fun h97 => ?_) (fun h97 => ?_)
            · refine P_iconst (pc' := 105) dX9_pour_104 rfl (v := 1) rfl ?_
              refine P_iadd (pc' := 106) dX9_pour_105 rfl ?_
              first
                | refine P_as (show nI y + 0 = nI y from Int32.add_zero _) ?_
                | refine P_as (nI_1 y) ?_
              refine P_istore2 (pc' := 107) dX9_pour_106 rfl (by decide) rfl ?_
              refine P_iinc3 (pc' := 110) dX9_pour_107 rfl (nI_1 c) (by decide) rfl ?_
              refine P_goto (tgt := 26) dX9_pour_110 rfl ?_
              have p2 := PsR.put (I := M) (i := 8 + c) (v := hl (T 70 (24 * i + c)) 0 9) (by omega)
              rw [hp.1] at p2
              first
                | (rw [if_pos h97] at hR
                   rw [← h97, upd_id] at p2
                   rw [← h97]
                   exact ih (c + 1) y A _ _ _ (by omega) (by rfl) (hp.tr p2) hR)
                | (rw [if_neg h97] at hR
                   exact ih (c + 1) (y + 1) _ _ _ _ (by omega) (by rfl) (hp.tr p2) hR)
            · refine P_iconst (pc' := 101) dX9_pour_100 rfl (v := 0) rfl ?_
              refine P_goto (tgt := 105) dX9_pour_101 rfl ?_
              refine P_iadd (pc' := 106) dX9_pour_105 rfl ?_
              first
                | refine P_as (show nI y + 0 = nI y from Int32.add_zero _) ?_
                | refine P_as (nI_1 y) ?_
              refine P_istore2 (pc' := 107) dX9_pour_106 rfl (by decide) rfl ?_
              refine P_iinc3 (pc' := 110) dX9_pour_107 rfl (nI_1 c) (by decide) rfl ?_
              refine P_goto (tgt := 26) dX9_pour_110 rfl ?_
              have p2 := PsR.put (I := M) (i := 8 + c) (v := hl (T 70 (24 * i + c)) 0 9) (by omega)
              rw [hp.1] at p2
              first
                | (rw [if_pos h97] at hR
                   rw [← h97, upd_id] at p2
                   rw [← h97]
                   exact ih (c + 1) y A _ _ _ (by omega) (by rfl) (hp.tr p2) hR)
                | (rw [if_neg h97] at hR
                   exact ih (c + 1) (y + 1) _ _ _ _ (by omega) (by rfl) (hp.tr p2) hR)
          · exact absurd h59 q
theorem r_pour {G : GX} {S : Shp} {I T : Mem} {d tn bn : Nat} {tx : Nat → Tx} (hT : KT T tn bn tx) (hsh : SHP S) (hI : RI T I) (s : Int32) (hd : 12 ≤ d) : PM G yX9_pour cX9_pour 6 (some .int) d 0 0 [.ref 55, .int s] S I (RO S I (oPou T s).2 (oPou T s).1) := by
  obtain ⟨n, hn, hw, eR, hz, hr, hrd⟩ := hT.n hI
  refine PM.of (ls := [some (.ref 55), some (.int s), none, none, none, none]) (by decide) rfl (Nat.le_of_ble_eq_true rfl) rfl ?_
  show PW G RX9 "pour" _ _ _ _ _ _ _ _ _ _ _ _
  by_cases hs : wi s 0 3 = 0
  · have eo : oPou T s = (-1000000001, T) := if_pos hs
    refine P_iload1 (pc' := 1) dX9_pour_0 rfl ?_
    refine P_callS1 (pc' := 4) dX9_pour_1 rfl lk_X9_171 (c_X9_isSheet (d := 1) s (by omega)) (by omega) (Nat.le_of_ble_eq_true rfl) (fun r S' I' hq => ?_)
    obtain ⟨rfl, rfl, rfl⟩ := hq
    refine P_if_ne (tgt := 10) (pc' := 7) dX9_pour_4 rfl rfl (fun h4 => ?_) (fun h4 => ?_)
    · exact absurd hs h4
    · refine P_ldc (pc' := 9) dX9_pour_7 rfl co_X9_83 ?_
      refine P_iret dX9_pour_9 ?_
      exact RO.n eo hI
  obtain ⟨i, hi, rfl⟩ := wi_b (m := 3) (by decide) hs
  obtain ⟨s1, ⟨m, hm, s2⟩, s3⟩ := hT.2.2.2.2.1 i (by omega)
  have e68 : I 68 i = T 68 i := by rw [hI 68 (by decide) (by decide)]
  have e69 : I 69 i = nI m := by rw [hI 69 (by decide) (by decide)]; exact s2
  have eo : oPou T (nI i) = if T 68 i = -1 then (-1000000011, T) else (nI (poF (fun j => T 70 (24 * i + j)) (min m 8) 0 (0, aR T)).1, nw T (poF (fun j => T 70 (24 * i + j)) (min m 8) 0 (0, aR T)).2) := by unfold oPou; rw [if_neg hs, nI_clamp (by omega), s2, nI_clamp (by omega)]
  rcases s_neg s1 with z | ⟨z1, z2⟩
  · rw [if_pos z] at eo
    refine P_iload1 (pc' := 1) dX9_pour_0 rfl ?_
    refine P_callS1 (pc' := 4) dX9_pour_1 rfl lk_X9_171 (c_X9_isSheet (d := 1) _ (by omega)) (by omega) (Nat.le_of_ble_eq_true rfl) (fun r S' I' hq => ?_)
    obtain ⟨rfl, rfl, rfl⟩ := hq
    refine P_if_ne (tgt := 10) (pc' := 7) dX9_pour_4 rfl rfl (fun h4 => ?_) (fun h4 => ?_)
    · refine P_aload0 (pc' := 11) dX9_pour_10 rfl ?_
      refine P_getr (pc' := 14) dX9_pour_11 rfl fl_X9_48 rfl (l_55 hsh) (t_55 hsh) (q_55_23 hsh) ?_
      refine P_iload1 (pc' := 15) dX9_pour_14 rfl ?_
      refine P_iald (pc' := 16) dX9_pour_15 rfl (l_68 hsh) (t_68 hsh) (j := i) rfl (by omega) (by decide) ?_
      refine P_as (e68.trans z) ?_
      refine P_if_ge (tgt := 22) (pc' := 19) dX9_pour_16 rfl rfl (fun h16 => ?_) (fun h16 => ?_)
      · exact absurd h16 (by decide)
      · refine P_ldc (pc' := 21) dX9_pour_19 rfl co_X9_174 ?_
        refine P_iret dX9_pour_21 ?_
        exact RO.n eo hI
    · exact absurd h4 hs
  · rw [eo, if_neg z1]
    refine P_iload1 (pc' := 1) dX9_pour_0 rfl ?_
    refine P_callS1 (pc' := 4) dX9_pour_1 rfl lk_X9_171 (c_X9_isSheet (d := 1) _ (by omega)) (by omega) (Nat.le_of_ble_eq_true rfl) (fun r S' I' hq => ?_)
    obtain ⟨rfl, rfl, rfl⟩ := hq
    refine P_if_ne (tgt := 10) (pc' := 7) dX9_pour_4 rfl rfl (fun h4 => ?_) (fun h4 => ?_)
    · refine P_aload0 (pc' := 11) dX9_pour_10 rfl ?_
      refine P_getr (pc' := 14) dX9_pour_11 rfl fl_X9_48 rfl (l_55 hsh) (t_55 hsh) (q_55_23 hsh) ?_
      refine P_iload1 (pc' := 15) dX9_pour_14 rfl ?_
      refine P_iald (pc' := 16) dX9_pour_15 rfl (l_68 hsh) (t_68 hsh) (j := i) rfl (by omega) (by decide) ?_
      refine P_as e68 ?_
      refine P_if_ge (tgt := 22) (pc' := 19) dX9_pour_16 rfl rfl (fun h16 => ?_) (fun h16 => ?_)
      · refine P_iconst (pc' := 23) dX9_pour_22 rfl (v := 0) rfl ?_
        refine P_istore2 (pc' := 24) dX9_pour_23 rfl (by decide) rfl ?_
        refine P_iconst (pc' := 25) dX9_pour_24 rfl (v := 0) rfl ?_
        refine P_istore3 (pc' := 26) dX9_pour_25 rfl (by decide) rfl ?_
        exact lp_X9_pour hsh hI (by omega) hm e69 hd (min m 8) 0 0 (aR T) I _ _ (by omega) rfl (by rw [← eR]; exact PsR.self) rfl
      · exact absurd z2 h16
    · exact absurd h4 hs

