theorem hasI_iff {n : Nat} {p q : Int32} (hn : n ≤ 24) : (¬ hasI (nI n) p q = 0) ↔ (0 ≤ p ∧ 0 ≤ q ∧ p ≤ nI n - q) := by
  have e0 : (0 : Int32).toInt = 0 := by decide
  have en : (nI n).toInt = (n : Int) := nI_toInt (by omega)
  have b1 := Int32.le_toInt p
  have b2 := Int32.toInt_lt p
  have b3 := Int32.le_toInt q
  have b4 := Int32.toInt_lt q
  constructor
  · intro h
    obtain ⟨a, b, hab, rfl, rfl⟩ := hasI_n hn h
    refine ⟨nI_pos' (by omega), nI_pos' (by omega), ?_⟩
    rw [pk_sub (by omega)]
    exact nI_le (by omega) (by omega)
  · rintro ⟨h1, h2, h3⟩
    obtain ⟨a, ha, rfl⟩ := nI_of (Int32.not_lt.mpr h1)
    obtain ⟨b, hb, rfl⟩ := nI_of (Int32.not_lt.mpr h2)
    have e := i_subI (a := nI n) (b := nI b) (by rw [en, nI_toInt hb]; omega) (by rw [en, nI_toInt hb]; omega)
    have h3 := Int32.le_iff_toInt_le.mp h3
    rw [e, en, nI_toInt ha, nI_toInt hb] at h3
    have hab : a + b ≤ n := by omega
    unfold hasI
    rw [show nI n = nI (n + 1) - 1 from (nI_pred n).symm, wi_y (by omega) (by omega), if_neg (by decide), nI_pred, pk_sub (by omega), show nI (n - a) = nI (n - a + 1) - 1 from (nI_pred _).symm, wi_y (by omega) (by omega)]
    decide
theorem RE.sw {T I : Mem} {f g : Nat → Int32} (h : RI T I) : RE (sR T 70 f) (sR (sR I 75 g) 70 f) := by
  refine ⟨fun x h1 h2 h3 _ _ _ _ _ _ _ h11 => ?_, fun i _ => ?_, ?_, ?_, ?_⟩
  · by_cases q : x = 70
    · rw [q, sR_s, sR_s]
    · rw [sR_n q, sR_n q, sR_n h11, h x (by omega) h2]
  · rw [sR_n (by decide), sR_n (by decide), sR_n (by decide), h 56 (by decide) (by decide)]
  · rw [sR_n (by decide), sR_n (by decide), sR_n (by decide), h 55 (by decide) (by decide)]
  · rw [sR_n (by decide), sR_n (by decide), sR_n (by decide), h 55 (by decide) (by decide)]
  · rw [sR_n (by decide), sR_n (by decide), sR_n (by decide), h 55 (by decide) (by decide)]
theorem lp_X9_copy1 {G : GX} {S : Shp} {I : Mem} {d s j t a m : Nat} {Q : Option Value → Shp → Mem → Prop} (hsh : SHP S) (hs : s < 4) (hj : j + m ≤ 24) (hQ : ∀ g x6, (∀ k, k < m → g k = I 70 (24 * s + j + k)) → PW G RX9 "copy" cX9_copy 7 (some .int) d 0 0 Q 137 [some (.ref 55), some (.int (nI s)), some (.int (nI j)), some (.int (nI t)), some (.int (nI a)), some (.int (nI m)), x6] [] S (sR I 75 g)) : ∀ (k i : Nat) (g : Nat → Int32), i + k = m → (∀ l, l < i → g l = I 70 (24 * s + j + l)) → PW G RX9 "copy" cX9_copy 7 (some .int) d 0 0 Q 103 [some (.ref 55), some (.int (nI s)), some (.int (nI j)), some (.int (nI t)), some (.int (nI a)), some (.int (nI m)), some (.int (nI i))] [] S (sR I 75 g) := by
  have ec : (24 : Int32) * nI s = nI (24 * s) := pk_mul 24 s
  intro k
  induction k with
  | zero =>
    intro i g hi hg
    refine P_iload6 (pc' := 105) dX9_copy_103 rfl ?_
    refine P_iload5 (pc' := 107) dX9_copy_105 rfl ?_
    refine P_icmp_ge (tgt := 137) (pc' := 110) dX9_copy_107 rfl rfl (fun h107 => ?_) (fun h107 => ?_)
    · exact hQ g _ (fun k hk => hg k (by omega))
    · exact absurd (nI_le (by omega) (by omega)) h107
  | succ k ih =>
    intro i g hi hg
    refine P_iload6 (pc' := 105) dX9_copy_103 rfl ?_
    refine P_iload5 (pc' := 107) dX9_copy_105 rfl ?_
    refine P_icmp_ge (tgt := 137) (pc' := 110) dX9_copy_107 rfl rfl (fun h107 => ?_) (fun h107 => ?_)
    · exact absurd h107 (nI_ge (by omega) (by omega))
    · refine P_aload0 (pc' := 111) dX9_copy_110 rfl ?_
      refine P_getr (pc' := 114) dX9_copy_111 rfl fl_X9_69 rfl (l_55 hsh) (t_55 hsh) (q_55_30 hsh) ?_
      refine P_iload6 (pc' := 116) dX9_copy_114 rfl ?_
      refine P_aload0 (pc' := 117) dX9_copy_116 rfl ?_
      refine P_getr (pc' := 120) dX9_copy_117 rfl fl_X9_54 rfl (l_55 hsh) (t_55 hsh) (q_55_25 hsh) ?_
      refine P_bipush (pc' := 122) dX9_copy_120 rfl (v := 24) rfl ?_
      refine P_iload1 (pc' := 123) dX9_copy_122 rfl ?_
      refine P_imul (pc' := 124) dX9_copy_123 rfl ?_
      refine P_as ec ?_
      refine P_iload2 (pc' := 125) dX9_copy_124 rfl ?_
      refine P_iadd (pc' := 126) dX9_copy_125 rfl ?_
      refine P_as (nI_add _ _) ?_
      refine P_iload6 (pc' := 128) dX9_copy_126 rfl ?_
      refine P_iadd (pc' := 129) dX9_copy_128 rfl ?_
      refine P_as (nI_add _ _) ?_
      refine P_iald (pc' := 130) dX9_copy_129 rfl (l_70 hsh) (t_70 hsh) (j := 24 * s + j + i) rfl (by omega) (by decide) ?_
      refine P_as (y := I 70 (24 * s + j + i)) (by rw [sR_n (by decide)]) ?_
      refine P_iast (pc' := 131) dX9_copy_130 rfl (l_75 hsh) (t_75 hsh) (j := i) rfl (by omega) (by decide) ?_
      refine P_iinc6 (pc' := 134) dX9_copy_131 rfl (nI_1 i) (by decide) rfl ?_
      refine P_goto (tgt := 103) dX9_copy_134 rfl ?_
      rw [sR_u]
      refine ih (i + 1) _ (by omega) (fun l hl => ?_)
      unfold upd
      by_cases z : l = i
      · rw [if_pos z, z]
      · rw [if_neg z]; exact hg l (by omega)
theorem lp_X9_copy2 {G : GX} {S : Shp} {I T : Mem} {d s j t a m : Nat} {g : Nat → Int32} (hsh : SHP S) (hI : RI T I) (ht : t < 4) (ha : a + m ≤ 24) (hg : ∀ k, k < m → g k = I 70 (24 * s + j + k)) : ∀ (k i : Nat) (f : Nat → Int32), i + k = m → (∀ l, f l = if 24 * t + a ≤ l ∧ l < 24 * t + a + i then T 70 (24 * s + j + (l - (24 * t + a))) else T 70 l) → PW G RX9 "copy" cX9_copy 7 (some .int) d 0 0 (RO S I (cpS T s j t a m) (nI m)) 140 [some (.ref 55), some (.int (nI s)), some (.int (nI j)), some (.int (nI t)), some (.int (nI a)), some (.int (nI m)), some (.int (nI i))] [] S (sR (sR I 75 g) 70 f) := by
  have ec : (24 : Int32) * nI t = nI (24 * t) := pk_mul 24 t
  intro k
  induction k with
  | zero =>
    intro i f hi hf
    have hi : i = m := by omega
    subst hi
    have ef : f = fun l => if 24 * t + a ≤ l ∧ l < 24 * t + a + i then T 70 (24 * s + j + (l - (24 * t + a))) else T 70 l := funext hf
    refine P_iload6 (pc' := 142) dX9_copy_140 rfl ?_
    refine P_iload5 (pc' := 144) dX9_copy_142 rfl ?_
    refine P_icmp_ge (tgt := 175) (pc' := 147) dX9_copy_144 rfl rfl (fun h144 => ?_) (fun h144 => ?_)
    · refine P_iload5 (pc' := 177) dX9_copy_175 rfl ?_
      refine P_iret dX9_copy_177 ?_
      subst ef
      exact ⟨rfl, rfl, RE.sw hI, fun x hx => by rw [sR_n (by omega), sR_n (by omega)]⟩
    · exact absurd (nI_le (by omega) (by omega)) h144
  | succ k ih =>
    intro i f hi hf
    have eg : sR (sR I 75 g) 70 f 75 i = T 70 (24 * s + j + i) := by rw [sR_n (by decide), sR_s, hg i (by omega), hI 70 (by decide) (by decide)]
    refine P_iload6 (pc' := 142) dX9_copy_140 rfl ?_
    refine P_iload5 (pc' := 144) dX9_copy_142 rfl ?_
    refine P_icmp_ge (tgt := 175) (pc' := 147) dX9_copy_144 rfl rfl (fun h144 => ?_) (fun h144 => ?_)
    · exact absurd h144 (nI_ge (by omega) (by omega))
    · refine P_aload0 (pc' := 148) dX9_copy_147 rfl ?_
      refine P_getr (pc' := 151) dX9_copy_148 rfl fl_X9_54 rfl (l_55 hsh) (t_55 hsh) (q_55_25 hsh) ?_
      refine P_bipush (pc' := 153) dX9_copy_151 rfl (v := 24) rfl ?_
      refine P_iload3 (pc' := 154) dX9_copy_153 rfl ?_
      refine P_imul (pc' := 155) dX9_copy_154 rfl ?_
      refine P_as ec ?_
      refine P_iload4 (pc' := 157) dX9_copy_155 rfl ?_
      refine P_iadd (pc' := 158) dX9_copy_157 rfl ?_
      refine P_as (nI_add _ _) ?_
      refine P_iload6 (pc' := 160) dX9_copy_158 rfl ?_
      refine P_iadd (pc' := 161) dX9_copy_160 rfl ?_
      refine P_as (nI_add _ _) ?_
      refine P_aload0 (pc' := 162) dX9_copy_161 rfl ?_
      refine P_getr (pc' := 165) dX9_copy_162 rfl fl_X9_69 rfl (l_55 hsh) (t_55 hsh) (q_55_30 hsh) ?_
      refine P_iload6 (pc' := 167) dX9_copy_165 rfl ?_
      refine P_iald (pc' := 168) dX9_copy_167 rfl (l_75 hsh) (t_75 hsh) (j := i) rfl (by omega) (by decide) ?_
      refine P_as eg ?_
      refine P_iast (pc' := 169) dX9_copy_168 rfl (l_70 hsh) (t_70 hsh) (j := 24 * t + a + i) rfl (by omega) (by decide) ?_
      refine P_iinc6 (pc' := 172) dX9_copy_169 rfl (nI_1 i) (by decide) rfl ?_
      refine P_goto (tgt := 140) dX9_copy_172 rfl ?_
      rw [sR_u]
      refine ih (i + 1) _ (by omega) (fun l => ?_)
      unfold upd
      by_cases z : l = 24 * t + a + i
      · rw [if_pos z, if_pos (by omega), show l - (24 * t + a) = i by omega]
      · rw [if_neg z, hf l]
        by_cases r : 24 * t + a ≤ l ∧ l < 24 * t + a + i
        · rw [if_pos r, if_pos (by omega)]
        · rw [if_neg r, if_neg (by omega)]
theorem r_copy {G : GX} {S : Shp} {I T : Mem} {d tn bn : Nat} {tx : Nat → Tx} (hT : KT T tn bn tx) (hsh : SHP S) (hI : RI T I) (s j t a m : Int32) (hd : 12 ≤ d) : PM G yX9_copy cX9_copy 7 (some .int) d 0 0 [.ref 55, .int s, .int j, .int t, .int a, .int m] S I (RO S I (oCop T s j t a m).2 (oCop T s j t a m).1) := by
  refine PM.of (ls := [some (.ref 55), some (.int s), some (.int j), some (.int t), some (.int a), some (.int m), none]) (by decide) rfl (Nat.le_of_ble_eq_true rfl) rfl ?_
  show PW G RX9 "copy" _ _ _ _ _ _ _ _ _ _ _ _
  by_cases hs : wi s 0 3 = 0
  · have eo : oCop T s j t a m = (-1000000001, T) := if_pos hs
    refine P_iload1 (pc' := 1) dX9_copy_0 rfl ?_
    refine P_callS1 (pc' := 4) dX9_copy_1 rfl lk_X9_171 (c_X9_isSheet (d := 1) s (by omega)) (by omega) (Nat.le_of_ble_eq_true rfl) (fun r S' I' hq => ?_)
    obtain ⟨rfl, rfl, rfl⟩ := hq
    refine P_if_eq (tgt := 14) (pc' := 7) dX9_copy_4 rfl rfl (fun h4 => ?_) (fun h4 => ?_)
    · refine P_ldc (pc' := 16) dX9_copy_14 rfl co_X9_83 ?_
      refine P_iret dX9_copy_16 ?_
      exact RO.n eo hI
    · exact absurd hs h4
  by_cases ht : wi t 0 3 = 0
  · have eo : oCop T s j t a m = (-1000000001, T) := (if_neg hs).trans (if_pos ht)
    refine P_iload1 (pc' := 1) dX9_copy_0 rfl ?_
    refine P_callS1 (pc' := 4) dX9_copy_1 rfl lk_X9_171 (c_X9_isSheet (d := 1) s (by omega)) (by omega) (Nat.le_of_ble_eq_true rfl) (fun r S' I' hq => ?_)
    obtain ⟨rfl, rfl, rfl⟩ := hq
    refine P_if_eq (tgt := 14) (pc' := 7) dX9_copy_4 rfl rfl (fun h4 => ?_) (fun h4 => ?_)
    · exact absurd h4 hs
    · refine P_iload3 (pc' := 8) dX9_copy_7 rfl ?_
      refine P_callS1 (pc' := 11) dX9_copy_8 rfl lk_X9_171 (c_X9_isSheet (d := 1) t (by omega)) (by omega) (Nat.le_of_ble_eq_true rfl) (fun r S' I' hq => ?_)
      obtain ⟨rfl, rfl, rfl⟩ := hq
      refine P_if_ne (tgt := 17) (pc' := 14) dX9_copy_11 rfl rfl (fun h11 => ?_) (fun h11 => ?_)
      · exact absurd ht h11
      · refine P_ldc (pc' := 16) dX9_copy_14 rfl co_X9_83 ?_
        refine P_iret dX9_copy_16 ?_
        exact RO.n eo hI
  obtain ⟨i, hi, rfl⟩ := wi_b (m := 3) (by decide) hs
  obtain ⟨l, hl, rfl⟩ := wi_b (m := 3) (by decide) ht
  obtain ⟨s1, ⟨n, hn, s2⟩, s3⟩ := hT.2.2.2.2.1 i (by omega)
  obtain ⟨t1, ⟨u, hu, t2⟩, t3⟩ := hT.2.2.2.2.1 l (by omega)
  have e68 : I 68 = T 68 := hI 68 (by decide) (by decide)
  have e69 : I 69 i = nI n := by rw [hI 69 (by decide) (by decide)]; exact s2
  have e69' : I 69 l = nI u := by rw [hI 69 (by decide) (by decide)]; exact t2
  have eo : oCop T (nI i) j (nI l) a m = if T 68 i = -1 then (-1000000011, T) else if T 68 l = -1 then (-1000000011, T) else if T 68 i = T 68 l then (if hasI (nI n) j m = 0 then (-1000000013, T) else if hasI (nI u) a m = 0 then (-1000000013, T) else (m, cpS T i j.toNatClampNeg l a.toNatClampNeg m.toNatClampNeg)) else (-1000000012, T) := by unfold oCop; rw [if_neg hs, if_neg ht, nI_clamp (by omega), nI_clamp (by omega), s2, t2]
  rcases s_neg s1 with z | ⟨z1, z2⟩
  · rw [if_pos z] at eo
    refine P_iload1 (pc' := 1) dX9_copy_0 rfl ?_
    refine P_callS1 (pc' := 4) dX9_copy_1 rfl lk_X9_171 (c_X9_isSheet (d := 1) _ (by omega)) (by omega) (Nat.le_of_ble_eq_true rfl) (fun r S' I' hq => ?_)
    obtain ⟨rfl, rfl, rfl⟩ := hq
    refine P_if_eq (tgt := 14) (pc' := 7) dX9_copy_4 rfl rfl (fun h4 => ?_) (fun h4 => ?_)
    · exact absurd h4 hs
    · refine P_iload3 (pc' := 8) dX9_copy_7 rfl ?_
      refine P_callS1 (pc' := 11) dX9_copy_8 rfl lk_X9_171 (c_X9_isSheet (d := 1) _ (by omega)) (by omega) (Nat.le_of_ble_eq_true rfl) (fun r S' I' hq => ?_)
      obtain ⟨rfl, rfl, rfl⟩ := hq
      refine P_if_ne (tgt := 17) (pc' := 14) dX9_copy_11 rfl rfl (fun h11 => ?_) (fun h11 => ?_)
      · refine P_aload0 (pc' := 18) dX9_copy_17 rfl ?_
        refine P_getr (pc' := 21) dX9_copy_18 rfl fl_X9_48 rfl (l_55 hsh) (t_55 hsh) (q_55_23 hsh) ?_
        refine P_iload1 (pc' := 22) dX9_copy_21 rfl ?_
        refine P_iald (pc' := 23) dX9_copy_22 rfl (l_68 hsh) (t_68 hsh) (j := i) rfl (by omega) (by decide) ?_
        refine P_as (y := -1) (by rw [e68]; exact z) ?_
        refine P_if_lt (tgt := 35) (pc' := 26) dX9_copy_23 rfl rfl (fun h23 => ?_) (fun h23 => ?_)
        · refine P_ldc (pc' := 37) dX9_copy_35 rfl co_X9_174 ?_
          refine P_iret dX9_copy_37 ?_
          exact RO.n eo hI
        · exact absurd (by decide) h23
      · exact absurd h11 ht
  rw [if_neg z1] at eo
  rcases s_neg t1 with y | ⟨y1, y2⟩
  · rw [if_pos y] at eo
    refine P_iload1 (pc' := 1) dX9_copy_0 rfl ?_
    refine P_callS1 (pc' := 4) dX9_copy_1 rfl lk_X9_171 (c_X9_isSheet (d := 1) _ (by omega)) (by omega) (Nat.le_of_ble_eq_true rfl) (fun r S' I' hq => ?_)
    obtain ⟨rfl, rfl, rfl⟩ := hq
    refine P_if_eq (tgt := 14) (pc' := 7) dX9_copy_4 rfl rfl (fun h4 => ?_) (fun h4 => ?_)
    · exact absurd h4 hs
    · refine P_iload3 (pc' := 8) dX9_copy_7 rfl ?_
      refine P_callS1 (pc' := 11) dX9_copy_8 rfl lk_X9_171 (c_X9_isSheet (d := 1) _ (by omega)) (by omega) (Nat.le_of_ble_eq_true rfl) (fun r S' I' hq => ?_)
      obtain ⟨rfl, rfl, rfl⟩ := hq
      refine P_if_ne (tgt := 17) (pc' := 14) dX9_copy_11 rfl rfl (fun h11 => ?_) (fun h11 => ?_)
      · refine P_aload0 (pc' := 18) dX9_copy_17 rfl ?_
        refine P_getr (pc' := 21) dX9_copy_18 rfl fl_X9_48 rfl (l_55 hsh) (t_55 hsh) (q_55_23 hsh) ?_
        refine P_iload1 (pc' := 22) dX9_copy_21 rfl ?_
        refine P_iald (pc' := 23) dX9_copy_22 rfl (l_68 hsh) (t_68 hsh) (j := i) rfl (by omega) (by decide) ?_
        rw [e68]
        refine P_if_lt (tgt := 35) (pc' := 26) dX9_copy_23 rfl rfl (fun h23 => ?_) (fun h23 => ?_)
        · exact absurd z2 (Int32.not_le.mpr h23)
        · refine P_aload0 (pc' := 27) dX9_copy_26 rfl ?_
          refine P_getr (pc' := 30) dX9_copy_27 rfl fl_X9_48 rfl (l_55 hsh) (t_55 hsh) (q_55_23 hsh) ?_
          refine P_iload3 (pc' := 31) dX9_copy_30 rfl ?_
          refine P_iald (pc' := 32) dX9_copy_31 rfl (l_68 hsh) (t_68 hsh) (j := l) rfl (by omega) (by decide) ?_
          refine P_as (y := -1) (by rw [e68]; exact y) ?_
          refine P_if_ge (tgt := 38) (pc' := 35) dX9_copy_32 rfl rfl (fun h32 => ?_) (fun h32 => ?_)
          · exact absurd h32 (by decide)
          · refine P_ldc (pc' := 37) dX9_copy_35 rfl co_X9_174 ?_
            refine P_iret dX9_copy_37 ?_
            exact RO.n eo hI
      · exact absurd h11 ht
  rw [if_neg y1] at eo
  by_cases x : T 68 i = T 68 l
  · rw [if_pos x] at eo
    have eI : (hasI (nI n) j m = 0 ∨ hasI (nI u) a m = 0) → oCop T (nI i) j (nI l) a m = (-1000000013, T) := by
      intro q
      by_cases q1 : hasI (nI n) j m = 0
      · rw [if_pos q1] at eo; exact eo
      · rw [if_neg q1, if_pos (q.resolve_left q1)] at eo; exact eo
    have bad1 : ∀ p q : Int32, ¬ (0 ≤ p ∧ 0 ≤ q ∧ p ≤ nI n - q) → hasI (nI n) p q = 0 := fun p q z => Classical.byContradiction (fun w => z ((hasI_iff hn).mp w))
    have bad2 : ∀ p q : Int32, ¬ (0 ≤ p ∧ 0 ≤ q ∧ p ≤ nI u - q) → hasI (nI u) p q = 0 := fun p q z => Classical.byContradiction (fun w => z ((hasI_iff hu).mp w))
    refine P_iload1 (pc' := 1) dX9_copy_0 rfl ?_
    refine P_callS1 (pc' := 4) dX9_copy_1 rfl lk_X9_171 (c_X9_isSheet (d := 1) _ (by omega)) (by omega) (Nat.le_of_ble_eq_true rfl) (fun r S' I' hq => ?_)
    obtain ⟨rfl, rfl, rfl⟩ := hq
    refine P_if_eq (tgt := 14) (pc' := 7) dX9_copy_4 rfl rfl (fun h4 => ?_) (fun h4 => ?_)
    · exact absurd h4 hs
    · refine P_iload3 (pc' := 8) dX9_copy_7 rfl ?_
      refine P_callS1 (pc' := 11) dX9_copy_8 rfl lk_X9_171 (c_X9_isSheet (d := 1) _ (by omega)) (by omega) (Nat.le_of_ble_eq_true rfl) (fun r S' I' hq => ?_)
      obtain ⟨rfl, rfl, rfl⟩ := hq
      refine P_if_ne (tgt := 17) (pc' := 14) dX9_copy_11 rfl rfl (fun h11 => ?_) (fun h11 => ?_)
      · refine P_aload0 (pc' := 18) dX9_copy_17 rfl ?_
        refine P_getr (pc' := 21) dX9_copy_18 rfl fl_X9_48 rfl (l_55 hsh) (t_55 hsh) (q_55_23 hsh) ?_
        refine P_iload1 (pc' := 22) dX9_copy_21 rfl ?_
        refine P_iald (pc' := 23) dX9_copy_22 rfl (l_68 hsh) (t_68 hsh) (j := i) rfl (by omega) (by decide) ?_
        rw [e68]
        refine P_if_lt (tgt := 35) (pc' := 26) dX9_copy_23 rfl rfl (fun h23 => ?_) (fun h23 => ?_)
        · exact absurd z2 (Int32.not_le.mpr h23)
        · refine P_aload0 (pc' := 27) dX9_copy_26 rfl ?_
          refine P_getr (pc' := 30) dX9_copy_27 rfl fl_X9_48 rfl (l_55 hsh) (t_55 hsh) (q_55_23 hsh) ?_
          refine P_iload3 (pc' := 31) dX9_copy_30 rfl ?_
          refine P_iald (pc' := 32) dX9_copy_31 rfl (l_68 hsh) (t_68 hsh) (j := l) rfl (by omega) (by decide) ?_
          rw [e68]
          refine P_if_ge (tgt := 38) (pc' := 35) dX9_copy_32 rfl rfl (fun h32 => ?_) (fun h32 => ?_)
          · refine P_aload0 (pc' := 39) dX9_copy_38 rfl ?_
            refine P_getr (pc' := 42) dX9_copy_39 rfl fl_X9_48 rfl (l_55 hsh) (t_55 hsh) (q_55_23 hsh) ?_
            refine P_iload1 (pc' := 43) dX9_copy_42 rfl ?_
            refine P_iald (pc' := 44) dX9_copy_43 rfl (l_68 hsh) (t_68 hsh) (j := i) rfl (by omega) (by decide) ?_
            rw [e68]
            refine P_aload0 (pc' := 45) dX9_copy_44 rfl ?_
            refine P_getr (pc' := 48) dX9_copy_45 rfl fl_X9_48 rfl (l_55 hsh) (t_55 hsh) (q_55_23 hsh) ?_
            refine P_iload3 (pc' := 49) dX9_copy_48 rfl ?_
            refine P_iald (pc' := 50) dX9_copy_49 rfl (l_68 hsh) (t_68 hsh) (j := l) rfl (by omega) (by decide) ?_
            rw [e68]
            refine P_icmp_eq (tgt := 56) (pc' := 53) dX9_copy_50 rfl rfl (fun h50 => ?_) (fun h50 => ?_)
            · refine P_iload2 (pc' := 57) dX9_copy_56 rfl ?_
              refine P_if_lt (tgt := 97) (pc' := 60) dX9_copy_57 rfl rfl (fun h57 => ?_) (fun h57 => ?_)
              · refine P_ldc (pc' := 99) dX9_copy_97 rfl co_X9_247 ?_
                refine P_iret dX9_copy_99 ?_
                first
                  | exact RO.n (eI (Or.inl (bad1 _ _ (fun w => absurd w.1 (Int32.not_le.mpr h57))))) hI
                  | exact RO.n (eI (Or.inr (bad2 _ _ (fun w => absurd w.1 (Int32.not_le.mpr h62))))) hI
                  | exact RO.n (eI (Or.inl (bad1 _ _ (fun w => absurd w.2.1 (Int32.not_le.mpr h67))))) hI
                  | exact RO.n (eI (Or.inl (bad1 _ _ (fun w => absurd w.2.2 (Int32.not_le.mpr h80))))) hI
                  | exact RO.n (eI (Or.inr (bad2 _ _ (fun w => absurd w.2.2 h94)))) hI
              · refine P_iload4 (pc' := 62) dX9_copy_60 rfl ?_
                refine P_if_lt (tgt := 97) (pc' := 65) dX9_copy_62 rfl rfl (fun h62 => ?_) (fun h62 => ?_)
                · refine P_ldc (pc' := 99) dX9_copy_97 rfl co_X9_247 ?_
                  refine P_iret dX9_copy_99 ?_
                  first
                    | exact RO.n (eI (Or.inl (bad1 _ _ (fun w => absurd w.1 (Int32.not_le.mpr h57))))) hI
                    | exact RO.n (eI (Or.inr (bad2 _ _ (fun w => absurd w.1 (Int32.not_le.mpr h62))))) hI
                    | exact RO.n (eI (Or.inl (bad1 _ _ (fun w => absurd w.2.1 (Int32.not_le.mpr h67))))) hI
                    | exact RO.n (eI (Or.inl (bad1 _ _ (fun w => absurd w.2.2 (Int32.not_le.mpr h80))))) hI
                    | exact RO.n (eI (Or.inr (bad2 _ _ (fun w => absurd w.2.2 h94)))) hI
                · refine P_iload5 (pc' := 67) dX9_copy_65 rfl ?_
                  refine P_if_lt (tgt := 97) (pc' := 70) dX9_copy_67 rfl rfl (fun h67 => ?_) (fun h67 => ?_)
                  · refine P_ldc (pc' := 99) dX9_copy_97 rfl co_X9_247 ?_
                    refine P_iret dX9_copy_99 ?_
                    first
                      | exact RO.n (eI (Or.inl (bad1 _ _ (fun w => absurd w.1 (Int32.not_le.mpr h57))))) hI
                      | exact RO.n (eI (Or.inr (bad2 _ _ (fun w => absurd w.1 (Int32.not_le.mpr h62))))) hI
                      | exact RO.n (eI (Or.inl (bad1 _ _ (fun w => absurd w.2.1 (Int32.not_le.mpr h67))))) hI
                      | exact RO.n (eI (Or.inl (bad1 _ _ (fun w => absurd w.2.2 (Int32.not_le.mpr h80))))) hI
                      | exact RO.n (eI (Or.inr (bad2 _ _ (fun w => absurd w.2.2 h94)))) hI
                  · refine P_iload2 (pc' := 71) dX9_copy_70 rfl ?_
                    refine P_aload0 (pc' := 72) dX9_copy_71 rfl ?_
                    refine P_getr (pc' := 75) dX9_copy_72 rfl fl_X9_51 rfl (l_55 hsh) (t_55 hsh) (q_55_24 hsh) ?_
                    refine P_iload1 (pc' := 76) dX9_copy_75 rfl ?_
                    refine P_iald (pc' := 77) dX9_copy_76 rfl (l_69 hsh) (t_69 hsh) (j := i) rfl (by omega) (by decide) ?_
                    refine P_as e69 ?_
                    refine P_iload5 (pc' := 79) dX9_copy_77 rfl ?_
                    refine P_isub (pc' := 80) dX9_copy_79 rfl ?_
                    refine P_icmp_gt (tgt := 97) (pc' := 83) dX9_copy_80 rfl rfl (fun h80 => ?_) (fun h80 => ?_)
                    · refine P_ldc (pc' := 99) dX9_copy_97 rfl co_X9_247 ?_
                      refine P_iret dX9_copy_99 ?_
                      first
                        | exact RO.n (eI (Or.inl (bad1 _ _ (fun w => absurd w.1 (Int32.not_le.mpr h57))))) hI
                        | exact RO.n (eI (Or.inr (bad2 _ _ (fun w => absurd w.1 (Int32.not_le.mpr h62))))) hI
                        | exact RO.n (eI (Or.inl (bad1 _ _ (fun w => absurd w.2.1 (Int32.not_le.mpr h67))))) hI
                        | exact RO.n (eI (Or.inl (bad1 _ _ (fun w => absurd w.2.2 (Int32.not_le.mpr h80))))) hI
                        | exact RO.n (eI (Or.inr (bad2 _ _ (fun w => absurd w.2.2 h94)))) hI
                    · refine P_iload4 (pc' := 85) dX9_copy_83 rfl ?_
                      refine P_aload0 (pc' := 86) dX9_copy_85 rfl ?_
                      refine P_getr (pc' := 89) dX9_copy_86 rfl fl_X9_51 rfl (l_55 hsh) (t_55 hsh) (q_55_24 hsh) ?_
                      refine P_iload3 (pc' := 90) dX9_copy_89 rfl ?_
                      refine P_iald (pc' := 91) dX9_copy_90 rfl (l_69 hsh) (t_69 hsh) (j := l) rfl (by omega) (by decide) ?_
                      refine P_as e69' ?_
                      refine P_iload5 (pc' := 93) dX9_copy_91 rfl ?_
                      refine P_isub (pc' := 94) dX9_copy_93 rfl ?_
                      refine P_icmp_le (tgt := 100) (pc' := 97) dX9_copy_94 rfl rfl (fun h94 => ?_) (fun h94 => ?_)
                      · refine P_iconst (pc' := 101) dX9_copy_100 rfl (v := 0) rfl ?_
                        refine P_istore6 (pc' := 103) dX9_copy_101 rfl (by decide) rfl ?_
                        have q1 := (hasI_iff (q := m) hn).mpr ⟨Int32.not_lt.mp h57, Int32.not_lt.mp h67, Int32.not_lt.mp h80⟩
                        have q2 := (hasI_iff (q := m) hu).mpr ⟨Int32.not_lt.mp h62, Int32.not_lt.mp h67, h94⟩
                        rw [if_neg q1, if_neg q2] at eo
                        rw [eo]
                        obtain ⟨j1, m3, h24, rfl, rfl⟩ := hasI_n hn q1
                        obtain ⟨a1, m4, h25, rfl, e4⟩ := hasI_n hu q2
                        have e5 := (nI_eq (by omega) (by omega)).mp e4
                        subst e5
                        rw [nI_clamp (by omega), nI_clamp (by omega), nI_clamp (by omega)]
                        have h := lp_X9_copy1 (G := G) (S := S) (I := I) (d := d) (s := i) (j := j1) (t := l) (a := a1) (m := m3) (Q := RO S I (cpS T i j1 l a1 m3) (nI m3)) hsh (by omega) (by omega) (fun g x6 hg => ?_) m3 0 (I 75) (by omega) (fun l hl => absurd hl (by omega))
                        · rw [sR_self] at h
                          exact h
                        · refine P_iconst (pc' := 138) dX9_copy_137 rfl (v := 0) rfl ?_
                          refine P_istore6 (pc' := 140) dX9_copy_138 rfl (by decide) rfl ?_
                          have h2 := lp_X9_copy2 (G := G) (S := S) (d := d) (s := i) (j := j1) (t := l) (a := a1) (m := m3) hsh hI (by omega) (by omega) hg m3 0 (I 70) (by omega) (fun k => by rw [if_neg (by omega), hI 70 (by decide) (by decide)])
                          rw [show sR (sR I 75 g) 70 (I 70) = sR I 75 g from ?_] at h2
                          · exact h2
                          · have e : sR I 75 g 70 = I 70 := sR_n (by decide)
                            rw [← e, sR_self]
                      · refine P_ldc (pc' := 99) dX9_copy_97 rfl co_X9_247 ?_
                        refine P_iret dX9_copy_99 ?_
                        first
                          | exact RO.n (eI (Or.inl (bad1 _ _ (fun w => absurd w.1 (Int32.not_le.mpr h57))))) hI
                          | exact RO.n (eI (Or.inr (bad2 _ _ (fun w => absurd w.1 (Int32.not_le.mpr h62))))) hI
                          | exact RO.n (eI (Or.inl (bad1 _ _ (fun w => absurd w.2.1 (Int32.not_le.mpr h67))))) hI
                          | exact RO.n (eI (Or.inl (bad1 _ _ (fun w => absurd w.2.2 (Int32.not_le.mpr h80))))) hI
                          | exact RO.n (eI (Or.inr (bad2 _ _ (fun w => absurd w.2.2 h94)))) hI
            · exact absurd x h50
          · exact absurd y2 h32
      · exact absurd h11 ht
  · rw [if_neg x] at eo
    refine P_iload1 (pc' := 1) dX9_copy_0 rfl ?_
    refine P_callS1 (pc' := 4) dX9_copy_1 rfl lk_X9_171 (c_X9_isSheet (d := 1) _ (by omega)) (by omega) (Nat.le_of_ble_eq_true rfl) (fun r S' I' hq => ?_)
    obtain ⟨rfl, rfl, rfl⟩ := hq
    refine P_if_eq (tgt := 14) (pc' := 7) dX9_copy_4 rfl rfl (fun h4 => ?_) (fun h4 => ?_)
    · exact absurd h4 hs
    · refine P_iload3 (pc' := 8) dX9_copy_7 rfl ?_
      refine P_callS1 (pc' := 11) dX9_copy_8 rfl lk_X9_171 (c_X9_isSheet (d := 1) _ (by omega)) (by omega) (Nat.le_of_ble_eq_true rfl) (fun r S' I' hq => ?_)
      obtain ⟨rfl, rfl, rfl⟩ := hq
      refine P_if_ne (tgt := 17) (pc' := 14) dX9_copy_11 rfl rfl (fun h11 => ?_) (fun h11 => ?_)
      · refine P_aload0 (pc' := 18) dX9_copy_17 rfl ?_
        refine P_getr (pc' := 21) dX9_copy_18 rfl fl_X9_48 rfl (l_55 hsh) (t_55 hsh) (q_55_23 hsh) ?_
        refine P_iload1 (pc' := 22) dX9_copy_21 rfl ?_
        refine P_iald (pc' := 23) dX9_copy_22 rfl (l_68 hsh) (t_68 hsh) (j := i) rfl (by omega) (by decide) ?_
        rw [e68]
        refine P_if_lt (tgt := 35) (pc' := 26) dX9_copy_23 rfl rfl (fun h23 => ?_) (fun h23 => ?_)
        · exact absurd z2 (Int32.not_le.mpr h23)
        · refine P_aload0 (pc' := 27) dX9_copy_26 rfl ?_
          refine P_getr (pc' := 30) dX9_copy_27 rfl fl_X9_48 rfl (l_55 hsh) (t_55 hsh) (q_55_23 hsh) ?_
          refine P_iload3 (pc' := 31) dX9_copy_30 rfl ?_
          refine P_iald (pc' := 32) dX9_copy_31 rfl (l_68 hsh) (t_68 hsh) (j := l) rfl (by omega) (by decide) ?_
          rw [e68]
          refine P_if_ge (tgt := 38) (pc' := 35) dX9_copy_32 rfl rfl (fun h32 => ?_) (fun h32 => ?_)
          · refine P_aload0 (pc' := 39) dX9_copy_38 rfl ?_
            refine P_getr (pc' := 42) dX9_copy_39 rfl fl_X9_48 rfl (l_55 hsh) (t_55 hsh) (q_55_23 hsh) ?_
            refine P_iload1 (pc' := 43) dX9_copy_42 rfl ?_
            refine P_iald (pc' := 44) dX9_copy_43 rfl (l_68 hsh) (t_68 hsh) (j := i) rfl (by omega) (by decide) ?_
            rw [e68]
            refine P_aload0 (pc' := 45) dX9_copy_44 rfl ?_
            refine P_getr (pc' := 48) dX9_copy_45 rfl fl_X9_48 rfl (l_55 hsh) (t_55 hsh) (q_55_23 hsh) ?_
            refine P_iload3 (pc' := 49) dX9_copy_48 rfl ?_
            refine P_iald (pc' := 50) dX9_copy_49 rfl (l_68 hsh) (t_68 hsh) (j := l) rfl (by omega) (by decide) ?_
            rw [e68]
            refine P_icmp_eq (tgt := 56) (pc' := 53) dX9_copy_50 rfl rfl (fun h50 => ?_) (fun h50 => ?_)
            · exact absurd h50 x
            · refine P_ldc (pc' := 55) dX9_copy_53 rfl co_X9_121 ?_
              refine P_iret dX9_copy_55 ?_
              exact RO.n eo hI
          · exact absurd y2 h32
      · exact absurd h11 ht
/-! slots, in the reference -/
theorem r_ask {G : GX} {S : Shp} {I T : Mem} {d tn bn : Nat} {tx : Nat → Tx} (hT : KT T tn bn tx) (hsh : SHP S) (hI : RI T I) (b k : Int32) (hd : 12 ≤ d) : PM G yX9_ask cX9_ask 3 (some .int) d 0 0 [.ref 55, .int b, .int k] S I (RO S I T (vAsk T b k)) := by
  refine PM.of (ls := [some (.ref 55), some (.int b), some (.int k)]) (by decide) rfl (Nat.le_of_ble_eq_true rfl) rfl ?_
  show PW G RX9 "ask" _ _ _ _ _ _ _ _ _ _ _ _
  by_cases hb : wi b 0 4 = 0
  · rw [show vAsk T b k = -1000000001 from if_pos hb]
    refine P_iload1 (pc' := 1) dX9_ask_0 rfl ?_
    refine P_callS1 (pc' := 4) dX9_ask_1 rfl lk_X9_250 (c_X9_isSlot (d := 1) b (by omega)) (by omega) (Nat.le_of_ble_eq_true rfl) (fun r S' I' hq => ?_)
    obtain ⟨rfl, rfl, rfl⟩ := hq
    refine P_if_eq (tgt := 16) (pc' := 7) dX9_ask_4 rfl rfl (fun h4 => ?_) (fun h4 => ?_)
    · refine P_ldc (pc' := 18) dX9_ask_16 rfl co_X9_83 ?_
      refine P_iret dX9_ask_18 ?_
      exact RO.id hI
    · exact absurd hb h4
  by_cases hk : wi k 0 5 = 0
  · rw [show vAsk T b k = -1000000001 from (if_neg hb).trans (if_pos hk)]
    refine P_iload1 (pc' := 1) dX9_ask_0 rfl ?_
    refine P_callS1 (pc' := 4) dX9_ask_1 rfl lk_X9_250 (c_X9_isSlot (d := 1) b (by omega)) (by omega) (Nat.le_of_ble_eq_true rfl) (fun r S' I' hq => ?_)
    obtain ⟨rfl, rfl, rfl⟩ := hq
    refine P_if_eq (tgt := 16) (pc' := 7) dX9_ask_4 rfl rfl (fun h4 => ?_) (fun h4 => ?_)
    · exact absurd h4 hb
    · refine P_iload2 (pc' := 8) dX9_ask_7 rfl ?_
      refine P_iconst (pc' := 9) dX9_ask_8 rfl (v := 0) rfl ?_
      refine P_iconst (pc' := 10) dX9_ask_9 rfl (v := 5) rfl ?_
      refine P_callS3 (pc' := 13) dX9_ask_10 rfl lk_X9_75 (c_X9_in (d := 0) k 0 5) (by omega) (Nat.le_of_ble_eq_true rfl) (fun r S' I' hq => ?_)
      obtain ⟨rfl, rfl, rfl⟩ := hq
      refine P_if_ne (tgt := 19) (pc' := 16) dX9_ask_13 rfl rfl (fun h13 => ?_) (fun h13 => ?_)
      · exact absurd hk h13
      · refine P_ldc (pc' := 18) dX9_ask_16 rfl co_X9_83 ?_
        refine P_iret dX9_ask_18 ?_
        exact RO.id hI
  obtain ⟨i, hi, rfl⟩ := wi_b (m := 4) (by decide) hb
  obtain ⟨k1, k2, k3⟩ := hT.2.2.2.2.2.1 i (by omega)
  have e71 : I 71 = T 71 := hI 71 (by decide) (by decide)
  have e72 : I 72 = T 72 := hI 72 (by decide) (by decide)
  have e73 : I 73 = T 73 := hI 73 (by decide) (by decide)
  rw [show vAsk T (nI i) k = if T 71 i = 0 then -1000000011 else if T 71 i = 1 then (if ofF 6 (T 72 i) k = 0 then -1000000012 else T 73 i) else -1000000012 by unfold vAsk; rw [if_neg hb, if_neg hk, nI_clamp (by omega)]]
  refine P_iload1 (pc' := 1) dX9_ask_0 rfl ?_
  refine P_callS1 (pc' := 4) dX9_ask_1 rfl lk_X9_250 (c_X9_isSlot (d := 1) _ (by omega)) (by omega) (Nat.le_of_ble_eq_true rfl) (fun r S' I' hq => ?_)
  obtain ⟨rfl, rfl, rfl⟩ := hq
  refine P_if_eq (tgt := 16) (pc' := 7) dX9_ask_4 rfl rfl (fun h4 => ?_) (fun h4 => ?_)
  · exact absurd h4 hb
  · refine P_iload2 (pc' := 8) dX9_ask_7 rfl ?_
    refine P_iconst (pc' := 9) dX9_ask_8 rfl (v := 0) rfl ?_
    refine P_iconst (pc' := 10) dX9_ask_9 rfl (v := 5) rfl ?_
    refine P_callS3 (pc' := 13) dX9_ask_10 rfl lk_X9_75 (c_X9_in (d := 0) k 0 5) (by omega) (Nat.le_of_ble_eq_true rfl) (fun r S' I' hq => ?_)
    obtain ⟨rfl, rfl, rfl⟩ := hq
    refine P_if_ne (tgt := 19) (pc' := 16) dX9_ask_13 rfl rfl (fun h13 => ?_) (fun h13 => ?_)
    · refine P_aload0 (pc' := 20) dX9_ask_19 rfl ?_
      refine P_getr (pc' := 23) dX9_ask_20 rfl fl_X9_57 rfl (l_55 hsh) (t_55 hsh) (q_55_26 hsh) ?_
      refine P_iload1 (pc' := 24) dX9_ask_23 rfl ?_
      refine P_iald (pc' := 25) dX9_ask_24 rfl (l_71 hsh) (t_71 hsh) (j := i) rfl (by omega) (by decide) ?_
      rw [e71]
      refine P_if_ne (tgt := 31) (pc' := 28) dX9_ask_25 rfl rfl (fun h25 => ?_) (fun h25 => ?_)
      · refine P_aload0 (pc' := 32) dX9_ask_31 rfl ?_
        refine P_getr (pc' := 35) dX9_ask_32 rfl fl_X9_57 rfl (l_55 hsh) (t_55 hsh) (q_55_26 hsh) ?_
        refine P_iload1 (pc' := 36) dX9_ask_35 rfl ?_
        refine P_iald (pc' := 37) dX9_ask_36 rfl (l_71 hsh) (t_71 hsh) (j := i) rfl (by omega) (by decide) ?_
        rw [e71]
        refine P_iconst (pc' := 38) dX9_ask_37 rfl (v := 1) rfl ?_
        refine P_icmp_ne (tgt := 63) (pc' := 41) dX9_ask_38 rfl rfl (fun h38 => ?_) (fun h38 => ?_)
        · refine P_ldc (pc' := 65) dX9_ask_63 rfl co_X9_121 ?_
          refine P_iret dX9_ask_65 ?_
          first
            | (rw [if_neg h25, if_neg h38]; exact RO.id hI)
            | (rw [if_neg h25, if_pos h38, if_pos h51]; exact RO.id hI)
            | (rw [if_neg h25, if_pos h38, if_neg h51]; exact RO.id hI)
        · refine P_aload0 (pc' := 42) dX9_ask_41 rfl ?_
          refine P_getr (pc' := 45) dX9_ask_42 rfl fl_X9_60 rfl (l_55 hsh) (t_55 hsh) (q_55_27 hsh) ?_
          refine P_iload1 (pc' := 46) dX9_ask_45 rfl ?_
          refine P_iald (pc' := 47) dX9_ask_46 rfl (l_72 hsh) (t_72 hsh) (j := i) rfl (by omega) (by decide) ?_
          rw [e72]
          refine P_iload2 (pc' := 48) dX9_ask_47 rfl ?_
          refine P_callS2 (pc' := 51) dX9_ask_48 rfl lk_X9_117 (c_X9_isUnder (d := 0) _ _) (by omega) (Nat.le_of_ble_eq_true rfl) (fun r S' I' hq => ?_)
          obtain ⟨rfl, rfl, rfl⟩ := hq
          refine P_as (unF_of (k3 h38) (wi_k hk)) ?_
          refine P_if_eq (tgt := 63) (pc' := 54) dX9_ask_51 rfl rfl (fun h51 => ?_) (fun h51 => ?_)
          · refine P_ldc (pc' := 65) dX9_ask_63 rfl co_X9_121 ?_
            refine P_iret dX9_ask_65 ?_
            first
              | (rw [if_neg h25, if_neg h38]; exact RO.id hI)
              | (rw [if_neg h25, if_pos h38, if_pos h51]; exact RO.id hI)
              | (rw [if_neg h25, if_pos h38, if_neg h51]; exact RO.id hI)
          · refine P_aload0 (pc' := 55) dX9_ask_54 rfl ?_
            refine P_getr (pc' := 58) dX9_ask_55 rfl fl_X9_63 rfl (l_55 hsh) (t_55 hsh) (q_55_28 hsh) ?_
            refine P_iload1 (pc' := 59) dX9_ask_58 rfl ?_
            refine P_iald (pc' := 60) dX9_ask_59 rfl (l_73 hsh) (t_73 hsh) (j := i) rfl (by omega) (by decide) ?_
            rw [e73]
            refine P_goto (tgt := 65) dX9_ask_60 rfl ?_
            refine P_iret dX9_ask_65 ?_
            first
              | (rw [if_neg h25, if_neg h38]; exact RO.id hI)
              | (rw [if_neg h25, if_pos h38, if_pos h51]; exact RO.id hI)
              | (rw [if_neg h25, if_pos h38, if_neg h51]; exact RO.id hI)
      · refine P_ldc (pc' := 30) dX9_ask_28 rfl co_X9_174 ?_
        refine P_iret dX9_ask_30 ?_
        rw [if_pos h25]
        exact RO.id hI
    · exact absurd h13 hk
theorem r_item {G : GX} {S : Shp} {I T : Mem} {d tn bn : Nat} {tx : Nat → Tx} (hT : KT T tn bn tx) (hsh : SHP S) (hI : RI T I) (b j : Int32) (hd : 12 ≤ d) : PM G yX9_item cX9_item 4 (some .int) d 0 0 [.ref 55, .int b, .int j] S I (RO S I T (vIte T b j)) := by
  refine PM.of (ls := [some (.ref 55), some (.int b), some (.int j), none]) (by decide) rfl (Nat.le_of_ble_eq_true rfl) rfl ?_
  show PW G RX9 "item" _ _ _ _ _ _ _ _ _ _ _ _
  by_cases hb : wi b 0 4 = 0
  · rw [show vIte T b j = -1000000001 from if_pos hb]
    refine P_iload1 (pc' := 1) dX9_item_0 rfl ?_
    refine P_callS1 (pc' := 4) dX9_item_1 rfl lk_X9_250 (c_X9_isSlot (d := 1) b (by omega)) (by omega) (Nat.le_of_ble_eq_true rfl) (fun r S' I' hq => ?_)
    obtain ⟨rfl, rfl, rfl⟩ := hq
    refine P_if_ne (tgt := 10) (pc' := 7) dX9_item_4 rfl rfl (fun h4 => ?_) (fun h4 => ?_)
    · exact absurd hb h4
    · refine P_ldc (pc' := 9) dX9_item_7 rfl co_X9_83 ?_
      refine P_iret dX9_item_9 ?_
      exact RO.id hI
  obtain ⟨i, hi, rfl⟩ := wi_b (m := 4) (by decide) hb
  obtain ⟨k1, k2, k3⟩ := hT.2.2.2.2.2.1 i (by omega)
  have e71 : I 71 = T 71 := hI 71 (by decide) (by decide)
  have e72 : I 72 = T 72 := hI 72 (by decide) (by decide)
  have e74 : I 74 = T 74 := hI 74 (by decide) (by decide)
  have ec : (24 : Int32) * nI i = nI (24 * i) := pk_mul 24 i
  rw [show vIte T (nI i) j = if T 71 i = 0 then -1000000011 else if T 71 i = 2 then (if wi j 0 (T 72 i - 1) = 0 then -1000000013 else if T 74 (24 * i + j.toNatClampNeg) = -1000000005 then -1000000012 else T 74 (24 * i + j.toNatClampNeg)) else -1000000012 by unfold vIte; rw [if_neg hb, nI_clamp (by omega)]]
  refine P_iload1 (pc' := 1) dX9_item_0 rfl ?_
  refine P_callS1 (pc' := 4) dX9_item_1 rfl lk_X9_250 (c_X9_isSlot (d := 1) _ (by omega)) (by omega) (Nat.le_of_ble_eq_true rfl) (fun r S' I' hq => ?_)
  obtain ⟨rfl, rfl, rfl⟩ := hq
  refine P_if_ne (tgt := 10) (pc' := 7) dX9_item_4 rfl rfl (fun h4 => ?_) (fun h4 => ?_)
  · refine P_aload0 (pc' := 11) dX9_item_10 rfl ?_
    refine P_getr (pc' := 14) dX9_item_11 rfl fl_X9_57 rfl (l_55 hsh) (t_55 hsh) (q_55_26 hsh) ?_
    refine P_iload1 (pc' := 15) dX9_item_14 rfl ?_
    refine P_iald (pc' := 16) dX9_item_15 rfl (l_71 hsh) (t_71 hsh) (j := i) rfl (by omega) (by decide) ?_
    rw [e71]
    refine P_if_ne (tgt := 22) (pc' := 19) dX9_item_16 rfl rfl (fun h16 => ?_) (fun h16 => ?_)
    · refine P_aload0 (pc' := 23) dX9_item_22 rfl ?_
      refine P_getr (pc' := 26) dX9_item_23 rfl fl_X9_57 rfl (l_55 hsh) (t_55 hsh) (q_55_26 hsh) ?_
      refine P_iload1 (pc' := 27) dX9_item_26 rfl ?_
      refine P_iald (pc' := 28) dX9_item_27 rfl (l_71 hsh) (t_71 hsh) (j := i) rfl (by omega) (by decide) ?_
      rw [e71]
      refine P_iconst (pc' := 29) dX9_item_28 rfl (v := 2) rfl ?_
      refine P_icmp_eq (tgt := 35) (pc' := 32) dX9_item_29 rfl rfl (fun h29 => ?_) (fun h29 => ?_)
      · refine P_iload2 (pc' := 36) dX9_item_35 rfl ?_
        refine P_iconst (pc' := 37) dX9_item_36 rfl (v := 0) rfl ?_
        refine P_aload0 (pc' := 38) dX9_item_37 rfl ?_
        refine P_getr (pc' := 41) dX9_item_38 rfl fl_X9_60 rfl (l_55 hsh) (t_55 hsh) (q_55_27 hsh) ?_
        refine P_iload1 (pc' := 42) dX9_item_41 rfl ?_
        refine P_iald (pc' := 43) dX9_item_42 rfl (l_72 hsh) (t_72 hsh) (j := i) rfl (by omega) (by decide) ?_
        rw [e72]
        refine P_iconst (pc' := 44) dX9_item_43 rfl (v := 1) rfl ?_
        refine P_isub (pc' := 45) dX9_item_44 rfl ?_
        refine P_callS3 (pc' := 48) dX9_item_45 rfl lk_X9_75 (c_X9_in (d := 0) _ _ _) (by omega) (Nat.le_of_ble_eq_true rfl) (fun r S' I' hq => ?_)
        obtain ⟨rfl, rfl, rfl⟩ := hq
        refine P_if_ne (tgt := 54) (pc' := 51) dX9_item_48 rfl rfl (fun h48 => ?_) (fun h48 => ?_)
        · obtain ⟨n, hn, e2⟩ := k2 h29
          have h48b := h48
          rw [e2] at h48b
          obtain ⟨m, hm, rfl⟩ := wi_n (by omega) h48b
          rw [nI_clamp (by omega)]
          refine P_aload0 (pc' := 55) dX9_item_54 rfl ?_
          refine P_getr (pc' := 58) dX9_item_55 rfl fl_X9_66 rfl (l_55 hsh) (t_55 hsh) (q_55_29 hsh) ?_
          refine P_bipush (pc' := 60) dX9_item_58 rfl (v := 24) rfl ?_
          refine P_iload1 (pc' := 61) dX9_item_60 rfl ?_
          refine P_imul (pc' := 62) dX9_item_61 rfl ?_
          refine P_as ec ?_
          refine P_iload2 (pc' := 63) dX9_item_62 rfl ?_
          refine P_iadd (pc' := 64) dX9_item_63 rfl ?_
          refine P_as (nI_add _ _) ?_
          refine P_iald (pc' := 65) dX9_item_64 rfl (l_74 hsh) (t_74 hsh) (j := 24 * i + m) rfl (by omega) (by decide) ?_
          rw [e74]
          refine P_istore3 (pc' := 66) dX9_item_65 rfl (by decide) rfl ?_
          refine P_iload3 (pc' := 67) dX9_item_66 rfl ?_
          refine P_ldc (pc' := 69) dX9_item_67 rfl co_X9_166 ?_
          refine P_icmp_ne (tgt := 77) (pc' := 72) dX9_item_69 rfl rfl (fun h69 => ?_) (fun h69 => ?_)
          · refine P_iload3 (pc' := 78) dX9_item_77 rfl ?_
            refine P_iret dX9_item_78 ?_
            first
              | (rw [if_neg h16, if_pos h29, if_neg h48, if_pos h69]; exact RO.id hI)
              | (rw [if_neg h16, if_pos h29, if_neg h48, if_neg h69]; exact RO.id hI)
          · refine P_ldc (pc' := 74) dX9_item_72 rfl co_X9_121 ?_
            refine P_goto (tgt := 78) dX9_item_74 rfl ?_
            refine P_iret dX9_item_78 ?_
            first
              | (rw [if_neg h16, if_pos h29, if_neg h48, if_pos h69]; exact RO.id hI)
              | (rw [if_neg h16, if_pos h29, if_neg h48, if_neg h69]; exact RO.id hI)
        · refine P_ldc (pc' := 53) dX9_item_51 rfl co_X9_247 ?_
          refine P_iret dX9_item_53 ?_
          rw [if_neg h16, if_pos h29, if_pos h48]
          exact RO.id hI
      · refine P_ldc (pc' := 34) dX9_item_32 rfl co_X9_121 ?_
        refine P_iret dX9_item_34 ?_
        rw [if_neg h16, if_neg h29]
        exact RO.id hI
    · refine P_ldc (pc' := 21) dX9_item_19 rfl co_X9_174 ?_
      refine P_iret dX9_item_21 ?_
      rw [if_pos h16]
      exact RO.id hI
  · exact absurd h4 hb
theorem rm_m1 (x : Int32) : x - x / (-1) * (-1) = 0 := by
  have e : x / (-1) = -x := by
    apply Int32.toInt_inj.mp
    have e1 : (-1 : Int32).toInt = -1 := by decide
    rw [Int32.toInt_div, e1, Int.tdiv_neg, Int.tdiv_one, Int32.toInt_neg]
  rw [e, Int32.mul_neg, Int32.mul_one, Int32.neg_neg, Int32.sub_self]
theorem r_rest {G : GX} {S : Shp} {I T : Mem} {d tn bn : Nat} {tx : Nat → Tx} (hT : KT T tn bn tx) (hsh : SHP S) (hI : RI T I) (b y : Int32) (hd : 12 ≤ d) : PM G yX9_rest cX9_rest 3 (some .int) d 0 0 [.ref 55, .int b, .int y] S I (RO S I T (vRes T b y)) := by
  refine PM.of (ls := [some (.ref 55), some (.int b), some (.int y)]) (by decide) rfl (Nat.le_of_ble_eq_true rfl) rfl ?_
  show PW G RX9 "rest" _ _ _ _ _ _ _ _ _ _ _ _
  by_cases hb : wi b 0 4 = 0
  · rw [show vRes T b y = -1000000001 from if_pos hb]
    refine P_iload1 (pc' := 1) dX9_rest_0 rfl ?_
    refine P_callS1 (pc' := 4) dX9_rest_1 rfl lk_X9_250 (c_X9_isSlot (d := 1) b (by omega)) (by omega) (Nat.le_of_ble_eq_true rfl) (fun r S' I' hq => ?_)
    obtain ⟨rfl, rfl, rfl⟩ := hq
    refine P_if_ne (tgt := 10) (pc' := 7) dX9_rest_4 rfl rfl (fun h4 => ?_) (fun h4 => ?_)
    · exact absurd hb h4
    · refine P_ldc (pc' := 9) dX9_rest_7 rfl co_X9_83 ?_
      refine P_iret dX9_rest_9 ?_
      exact RO.id hI
  obtain ⟨i, hi, rfl⟩ := wi_b (m := 4) (by decide) hb
  have e71 : I 71 = T 71 := hI 71 (by decide) (by decide)
  have e72 : I 72 = T 72 := hI 72 (by decide) (by decide)
  rw [show vRes T (nI i) y = if T 71 i = 0 then -1000000011 else if T 71 i = 3 then (if y = 0 then -1000000002 else T 72 i - T 72 i / y * y) else -1000000012 by unfold vRes; rw [if_neg hb, nI_clamp (by omega)]]
  refine P_iload1 (pc' := 1) dX9_rest_0 rfl ?_
  refine P_callS1 (pc' := 4) dX9_rest_1 rfl lk_X9_250 (c_X9_isSlot (d := 1) _ (by omega)) (by omega) (Nat.le_of_ble_eq_true rfl) (fun r S' I' hq => ?_)
  obtain ⟨rfl, rfl, rfl⟩ := hq
  refine P_if_ne (tgt := 10) (pc' := 7) dX9_rest_4 rfl rfl (fun h4 => ?_) (fun h4 => ?_)
  · refine P_aload0 (pc' := 11) dX9_rest_10 rfl ?_
    refine P_getr (pc' := 14) dX9_rest_11 rfl fl_X9_57 rfl (l_55 hsh) (t_55 hsh) (q_55_26 hsh) ?_
    refine P_iload1 (pc' := 15) dX9_rest_14 rfl ?_
    refine P_iald (pc' := 16) dX9_rest_15 rfl (l_71 hsh) (t_71 hsh) (j := i) rfl (by omega) (by decide) ?_
    rw [e71]
    refine P_if_ne (tgt := 22) (pc' := 19) dX9_rest_16 rfl rfl (fun h16 => ?_) (fun h16 => ?_)
    · refine P_aload0 (pc' := 23) dX9_rest_22 rfl ?_
      refine P_getr (pc' := 26) dX9_rest_23 rfl fl_X9_57 rfl (l_55 hsh) (t_55 hsh) (q_55_26 hsh) ?_
      refine P_iload1 (pc' := 27) dX9_rest_26 rfl ?_
      refine P_iald (pc' := 28) dX9_rest_27 rfl (l_71 hsh) (t_71 hsh) (j := i) rfl (by omega) (by decide) ?_
      rw [e71]
      refine P_iconst (pc' := 29) dX9_rest_28 rfl (v := 3) rfl ?_
      refine P_icmp_eq (tgt := 35) (pc' := 32) dX9_rest_29 rfl rfl (fun h29 => ?_) (fun h29 => ?_)
      · refine P_iload2 (pc' := 36) dX9_rest_35 rfl ?_
        refine P_if_ne (tgt := 44) (pc' := 39) dX9_rest_36 rfl rfl (fun h36 => ?_) (fun h36 => ?_)
        · refine P_iload2 (pc' := 45) dX9_rest_44 rfl ?_
          refine P_iconst (pc' := 46) dX9_rest_45 rfl (v := (-1)) rfl ?_
          refine P_icmp_ne (tgt := 53) (pc' := 49) dX9_rest_46 rfl rfl (fun h46 => ?_) (fun h46 => ?_)
          · refine P_aload0 (pc' := 54) dX9_rest_53 rfl ?_
            refine P_getr (pc' := 57) dX9_rest_54 rfl fl_X9_60 rfl (l_55 hsh) (t_55 hsh) (q_55_27 hsh) ?_
            refine P_iload1 (pc' := 58) dX9_rest_57 rfl ?_
            refine P_iald (pc' := 59) dX9_rest_58 rfl (l_72 hsh) (t_72 hsh) (j := i) rfl (by omega) (by decide) ?_
            rw [e72]
            refine P_iload2 (pc' := 60) dX9_rest_59 rfl ?_
            refine P_irem (pc' := 61) dX9_rest_60 rfl h36 ?_
            refine P_iret dX9_rest_61 ?_
            first
              | (rw [if_neg h16, if_pos h29, if_pos h36]; exact RO.id hI)
              | (rw [if_neg h16, if_pos h29, if_neg h36, h46, rm_m1]; exact RO.id hI)
              | (rw [if_neg h16, if_pos h29, if_neg h36]; exact RO.id hI)
          · refine P_iconst (pc' := 50) dX9_rest_49 rfl (v := 0) rfl ?_
            refine P_goto (tgt := 61) dX9_rest_50 rfl ?_
            refine P_iret dX9_rest_61 ?_
            first
              | (rw [if_neg h16, if_pos h29, if_pos h36]; exact RO.id hI)
              | (rw [if_neg h16, if_pos h29, if_neg h36, h46, rm_m1]; exact RO.id hI)
              | (rw [if_neg h16, if_pos h29, if_neg h36]; exact RO.id hI)
        · refine P_ldc (pc' := 41) dX9_rest_39 rfl co_X9_253 ?_
          refine P_goto (tgt := 61) dX9_rest_41 rfl ?_
          refine P_iret dX9_rest_61 ?_
          first
            | (rw [if_neg h16, if_pos h29, if_pos h36]; exact RO.id hI)
            | (rw [if_neg h16, if_pos h29, if_neg h36, h46, rm_m1]; exact RO.id hI)
            | (rw [if_neg h16, if_pos h29, if_neg h36]; exact RO.id hI)
      · refine P_ldc (pc' := 34) dX9_rest_32 rfl co_X9_121 ?_
        refine P_iret dX9_rest_34 ?_
        rw [if_neg h16, if_neg h29]
        exact RO.id hI
    · refine P_ldc (pc' := 21) dX9_rest_19 rfl co_X9_174 ?_
      refine P_iret dX9_rest_21 ?_
      rw [if_pos h16]
      exact RO.id hI
  · exact absurd h4 hb
theorem lp_X9_lay {G : GX} {S : Shp} {I T : Mem} {d b k : Nat} {a c v : Int32} (hsh : SHP S) (hI : RI T I) (hb : b < 5) (hk : k < 4) : ∀ (q j : Nat) (f : Nat → Int32), j + q = 24 → (∀ l, f l = if 24 * b ≤ l ∧ l < 24 * b + j then T 70 (24 * k + (l - 24 * b)) else T 74 l) → PW G RX9 "lay" cX9_lay 6 (some .int) d 0 0 (RO S I (sR (lyU T b 2 a c) 74 (lyF T b k)) v) 134 [some (.ref 55), some (.int (nI b)), some (.int 2), some (.int (nI k)), some (.int v), some (.int (nI j))] [] S (sR (lyU I b 2 a c) 74 f) := by
  have ec : (24 : Int32) * nI b = nI (24 * b) := pk_mul 24 b
  have ek : (24 : Int32) * nI k = nI (24 * k) := pk_mul 24 k
  intro q
  induction q with
  | zero =>
    intro j f hj hf
    have hj : j = 24 := by omega
    subst hj
    have ef : f = lyF T b k := by funext l; exact hf l
    refine P_iload5 (pc' := 136) dX9_lay_134 rfl ?_
    refine P_bipush (pc' := 138) dX9_lay_136 rfl (v := 24) rfl ?_
    refine P_icmp_ge (tgt := 176) (pc' := 141) dX9_lay_138 rfl rfl (fun h138 => ?_) (fun h138 => ?_)
    · refine P_iload4 (pc' := 178) dX9_lay_176 rfl ?_
      refine P_iret dX9_lay_178 ?_
      subst ef
      exact ⟨rfl, rfl, RE.rf ((((hI.u _ _ _).u _ _ _).u _ _ _).s _ _), fun x hx => by rw [sR_n (by omega)]; exact lyU_o (by omega) (by omega) (by omega)⟩
    · exact absurd (by decide) h138
  | succ q ih =>
    intro j f hj hf
    have ev : sR (lyU I b 2 a c) 74 f 70 (24 * k + j) = T 70 (24 * k + j) := by rw [sR_n (by decide), lyU_o (by decide) (by decide) (by decide), hI 70 (by decide) (by decide)]
    refine P_iload5 (pc' := 136) dX9_lay_134 rfl ?_
    refine P_bipush (pc' := 138) dX9_lay_136 rfl (v := 24) rfl ?_
    refine P_icmp_ge (tgt := 176) (pc' := 141) dX9_lay_138 rfl rfl (fun h138 => ?_) (fun h138 => ?_)
    · exact absurd h138 (nI_ge (a := j) (b := 24) (by omega) (by decide))
    · refine P_iload2 (pc' := 142) dX9_lay_141 rfl ?_
      refine P_iconst (pc' := 143) dX9_lay_142 rfl (v := 2) rfl ?_
      refine P_icmp_ne (tgt := 176) (pc' := 146) dX9_lay_143 rfl rfl (fun h143 => ?_) (fun h143 => ?_)
      · exact absurd rfl h143
      · refine P_aload0 (pc' := 147) dX9_lay_146 rfl ?_
        refine P_getr (pc' := 150) dX9_lay_147 rfl fl_X9_66 rfl (l_55 hsh) (t_55 hsh) (q_55_29 hsh) ?_
        refine P_bipush (pc' := 152) dX9_lay_150 rfl (v := 24) rfl ?_
        refine P_iload1 (pc' := 153) dX9_lay_152 rfl ?_
        refine P_imul (pc' := 154) dX9_lay_153 rfl ?_
        refine P_as ec ?_
        refine P_iload5 (pc' := 156) dX9_lay_154 rfl ?_
        refine P_iadd (pc' := 157) dX9_lay_156 rfl ?_
        refine P_as (nI_add _ _) ?_
        refine P_aload0 (pc' := 158) dX9_lay_157 rfl ?_
        refine P_getr (pc' := 161) dX9_lay_158 rfl fl_X9_54 rfl (l_55 hsh) (t_55 hsh) (q_55_25 hsh) ?_
        refine P_bipush (pc' := 163) dX9_lay_161 rfl (v := 24) rfl ?_
        refine P_iload3 (pc' := 164) dX9_lay_163 rfl ?_
        refine P_imul (pc' := 165) dX9_lay_164 rfl ?_
        refine P_as ek ?_
        refine P_iload5 (pc' := 167) dX9_lay_165 rfl ?_
        refine P_iadd (pc' := 168) dX9_lay_167 rfl ?_
        refine P_as (nI_add _ _) ?_
        refine P_iald (pc' := 169) dX9_lay_168 rfl (l_70 hsh) (t_70 hsh) (j := 24 * k + j) rfl (by omega) (by decide) ?_
        refine P_as ev ?_
        refine P_iast (pc' := 170) dX9_lay_169 rfl (l_74 hsh) (t_74 hsh) (j := 24 * b + j) rfl (by omega) (by decide) ?_
        refine P_iinc5 (pc' := 173) dX9_lay_170 rfl (nI_1 j) (by decide) rfl ?_
        refine P_goto (tgt := 134) dX9_lay_173 rfl ?_
        rw [sR_u]
        refine ih (j + 1) _ (by omega) (fun l => ?_)
        unfold upd
        by_cases z : l = 24 * b + j
        · rw [if_pos z, if_pos (by omega), show l - 24 * b = j by omega]
        · rw [if_neg z, hf l]
          by_cases r : 24 * b ≤ l ∧ l < 24 * b + j
          · rw [if_pos r, if_pos (by omega)]
          · rw [if_neg r, if_neg (by omega)]
theorem r_lay {G : GX} {S : Shp} {I T : Mem} {d tn bn : Nat} {tx : Nat → Tx} (hT : KT T tn bn tx) (hsh : SHP S) (hI : RI T I) (b y k : Int32) (hd : 12 ≤ d) : PM G yX9_lay cX9_lay 6 (some .int) d 0 0 [.ref 55, .int b, .int y, .int k] S I (RO S I (oLay T b y k).2 (oLay T b y k).1) := by
  obtain ⟨n, hn, hw, eR, hz, hr, hrd⟩ := hT.n hI
  refine PM.of (ls := [some (.ref 55), some (.int b), some (.int y), some (.int k), none, none]) (by decide) rfl (Nat.le_of_ble_eq_true rfl) rfl ?_
  show PW G RX9 "lay" _ _ _ _ _ _ _ _ _ _ _ _
  by_cases hb : wi b 0 4 = 0
  · have eo : oLay T b y k = (-1000000001, T) := if_pos hb
    refine P_iload1 (pc' := 1) dX9_lay_0 rfl ?_
    refine P_callS1 (pc' := 4) dX9_lay_1 rfl lk_X9_250 (c_X9_isSlot (d := 1) b (by omega)) (by omega) (Nat.le_of_ble_eq_true rfl) (fun r S' I' hq => ?_)
    obtain ⟨rfl, rfl, rfl⟩ := hq
    refine P_if_eq (tgt := 41) (pc' := 7) dX9_lay_4 rfl rfl (fun h4 => ?_) (fun h4 => ?_)
    · refine P_ldc (pc' := 43) dX9_lay_41 rfl co_X9_83 ?_
      refine P_iret dX9_lay_43 ?_
      exact RO.n eo hI
    · exact absurd hb h4
  by_cases hy : wi y 0 3 = 0
  · have eo : oLay T b y k = (-1000000001, T) := (if_neg hb).trans (if_pos hy)
    refine P_iload1 (pc' := 1) dX9_lay_0 rfl ?_
    refine P_callS1 (pc' := 4) dX9_lay_1 rfl lk_X9_250 (c_X9_isSlot (d := 1) b (by omega)) (by omega) (Nat.le_of_ble_eq_true rfl) (fun r S' I' hq => ?_)
    obtain ⟨rfl, rfl, rfl⟩ := hq
    refine P_if_eq (tgt := 41) (pc' := 7) dX9_lay_4 rfl rfl (fun h4 => ?_) (fun h4 => ?_)
    · exact absurd h4 hb
    · refine P_iload2 (pc' := 8) dX9_lay_7 rfl ?_
      refine P_iconst (pc' := 9) dX9_lay_8 rfl (v := 0) rfl ?_
      refine P_iconst (pc' := 10) dX9_lay_9 rfl (v := 3) rfl ?_
      refine P_callS3 (pc' := 13) dX9_lay_10 rfl lk_X9_75 (c_X9_in (d := 0) y 0 3) (by omega) (Nat.le_of_ble_eq_true rfl) (fun r S' I' hq => ?_)
      obtain ⟨rfl, rfl, rfl⟩ := hq
      refine P_if_eq (tgt := 41) (pc' := 16) dX9_lay_13 rfl rfl (fun h13 => ?_) (fun h13 => ?_)
      · refine P_ldc (pc' := 43) dX9_lay_41 rfl co_X9_83 ?_
        refine P_iret dX9_lay_43 ?_
        exact RO.n eo hI
      · exact absurd hy h13
  obtain ⟨i, hi, rfl⟩ := wi_b (m := 4) (by decide) hb
  have e71 : I 71 = T 71 := hI 71 (by decide) (by decide)
  have eo : oLay T (nI i) y k = if y = 1 then (if wi k 0 (nI n - 1) = 0 then (-1000000001, T) else (T 71 i, lyU T i 1 (aR T (16 + 5 * k.toNatClampNeg)) (kWorth (aR T (16 + 5 * k.toNatClampNeg)) (aR T (18 + 5 * k.toNatClampNeg))))) else if y = 2 then (if wi k 0 3 = 0 then (-1000000001, T) else if T 68 k.toNatClampNeg = -1 then (-1000000011, T) else (T 71 i, sR (lyU T i 2 (T 69 k.toNatClampNeg) 0) 74 (lyF T i k.toNatClampNeg))) else (T 71 i, lyU T i y k 0) := by unfold oLay; rw [if_neg hb, if_neg hy, nI_clamp (by omega), hw.1]
  have fin : ∀ (y a c : Int32), RE (lyU T i y a c) (lyU I i y a c) ∧ ∀ x, (x < 55 ∨ 77 ≤ x) → lyU I i y a c x = I x := fun y a c => ⟨RE.rf (((hI.u _ _ _).u _ _ _).u _ _ _), fun x hx => lyU_o (by omega) (by omega) (by omega)⟩
  by_cases y1 : y = 1
  · subst y1
    rw [if_pos rfl] at eo
    by_cases hk : wi k 0 (nI n - 1) = 0
    · rw [if_pos hk] at eo
      refine P_iload1 (pc' := 1) dX9_lay_0 rfl ?_
      refine P_callS1 (pc' := 4) dX9_lay_1 rfl lk_X9_250 (c_X9_isSlot (d := 1) _ (by omega)) (by omega) (Nat.le_of_ble_eq_true rfl) (fun r S' I' hq => ?_)
      obtain ⟨rfl, rfl, rfl⟩ := hq
      refine P_if_eq (tgt := 41) (pc' := 7) dX9_lay_4 rfl rfl (fun h4 => ?_) (fun h4 => ?_)
      · exact absurd h4 hb
      · refine P_iload2 (pc' := 8) dX9_lay_7 rfl ?_
        refine P_iconst (pc' := 9) dX9_lay_8 rfl (v := 0) rfl ?_
        refine P_iconst (pc' := 10) dX9_lay_9 rfl (v := 3) rfl ?_
        refine P_callS3 (pc' := 13) dX9_lay_10 rfl lk_X9_75 (c_X9_in (d := 0) 1 0 3) (by omega) (Nat.le_of_ble_eq_true rfl) (fun r S' I' hq => ?_)
        obtain ⟨rfl, rfl, rfl⟩ := hq
        refine P_if_eq (tgt := 41) (pc' := 16) dX9_lay_13 rfl rfl (fun h13 => ?_) (fun h13 => ?_)
        · exact absurd h13 hy
        · refine P_iload2 (pc' := 17) dX9_lay_16 rfl ?_
          refine P_iconst (pc' := 18) dX9_lay_17 rfl (v := 1) rfl ?_
          refine P_icmp_ne (tgt := 29) (pc' := 21) dX9_lay_18 rfl rfl (fun h18 => ?_) (fun h18 => ?_)
          · exact absurd rfl h18
          · refine P_aload0 (pc' := 22) dX9_lay_21 rfl ?_
            refine P_iload3 (pc' := 23) dX9_lay_22 rfl ?_
            refine P_callV1 (pc' := 26) dX9_lay_23 rfl lk_X9_93 (l_55 hsh) (t_55 hsh) (c_X9_isBeggar (d := 1) k hsh hz (by omega)) (by omega) (Nat.le_of_ble_eq_true rfl) (fun r S' I' hq => ?_)
            obtain ⟨rfl, rfl, rfl⟩ := hq
            refine P_if_eq (tgt := 41) (pc' := 29) dX9_lay_26 rfl rfl (fun h26 => ?_) (fun h26 => ?_)
            · refine P_ldc (pc' := 43) dX9_lay_41 rfl co_X9_83 ?_
              refine P_iret dX9_lay_43 ?_
              exact RO.n eo hI
            · exact absurd hk h26
    · rw [if_neg hk] at eo
      obtain ⟨j, hj, rfl⟩ := wi_n (by omega) hk
      rw [nI_clamp (by omega)] at eo
      obtain ⟨k1, -, -⟩ := hw.2.2.2.2 j (by omega)
      refine P_iload1 (pc' := 1) dX9_lay_0 rfl ?_
      refine P_callS1 (pc' := 4) dX9_lay_1 rfl lk_X9_250 (c_X9_isSlot (d := 1) _ (by omega)) (by omega) (Nat.le_of_ble_eq_true rfl) (fun r S' I' hq => ?_)
      obtain ⟨rfl, rfl, rfl⟩ := hq
      refine P_if_eq (tgt := 41) (pc' := 7) dX9_lay_4 rfl rfl (fun h4 => ?_) (fun h4 => ?_)
      · exact absurd h4 hb
      · refine P_iload2 (pc' := 8) dX9_lay_7 rfl ?_
        refine P_iconst (pc' := 9) dX9_lay_8 rfl (v := 0) rfl ?_
        refine P_iconst (pc' := 10) dX9_lay_9 rfl (v := 3) rfl ?_
        refine P_callS3 (pc' := 13) dX9_lay_10 rfl lk_X9_75 (c_X9_in (d := 0) 1 0 3) (by omega) (Nat.le_of_ble_eq_true rfl) (fun r S' I' hq => ?_)
        obtain ⟨rfl, rfl, rfl⟩ := hq
        refine P_if_eq (tgt := 41) (pc' := 16) dX9_lay_13 rfl rfl (fun h13 => ?_) (fun h13 => ?_)
        · exact absurd h13 hy
        · refine P_iload2 (pc' := 17) dX9_lay_16 rfl ?_
          refine P_iconst (pc' := 18) dX9_lay_17 rfl (v := 1) rfl ?_
          refine P_icmp_ne (tgt := 29) (pc' := 21) dX9_lay_18 rfl rfl (fun h18 => ?_) (fun h18 => ?_)
          · exact absurd rfl h18
          · refine P_aload0 (pc' := 22) dX9_lay_21 rfl ?_
            refine P_iload3 (pc' := 23) dX9_lay_22 rfl ?_
            refine P_callV1 (pc' := 26) dX9_lay_23 rfl lk_X9_93 (l_55 hsh) (t_55 hsh) (c_X9_isBeggar (d := 1) _ hsh hz (by omega)) (by omega) (Nat.le_of_ble_eq_true rfl) (fun r S' I' hq => ?_)
            obtain ⟨rfl, rfl, rfl⟩ := hq
            refine P_if_eq (tgt := 41) (pc' := 29) dX9_lay_26 rfl rfl (fun h26 => ?_) (fun h26 => ?_)
            · exact absurd h26 hk
            · refine P_iload2 (pc' := 30) dX9_lay_29 rfl ?_
              refine P_iconst (pc' := 31) dX9_lay_30 rfl (v := 2) rfl ?_
              refine P_icmp_ne (tgt := 44) (pc' := 34) dX9_lay_31 rfl rfl (fun h31 => ?_) (fun h31 => ?_)
              · refine P_iload2 (pc' := 45) dX9_lay_44 rfl ?_
                refine P_iconst (pc' := 46) dX9_lay_45 rfl (v := 2) rfl ?_
                refine P_icmp_ne (tgt := 61) (pc' := 49) dX9_lay_46 rfl rfl (fun h46 => ?_) (fun h46 => ?_)
                · refine P_aload0 (pc' := 62) dX9_lay_61 rfl ?_
                  refine P_getr (pc' := 65) dX9_lay_62 rfl fl_X9_57 rfl (l_55 hsh) (t_55 hsh) (q_55_26 hsh) ?_
                  refine P_iload1 (pc' := 66) dX9_lay_65 rfl ?_
                  refine P_iald (pc' := 67) dX9_lay_66 rfl (l_71 hsh) (t_71 hsh) (j := i) rfl (by omega) (by decide) ?_
                  rw [e71]
                  refine P_istore4 (pc' := 69) dX9_lay_67 rfl (by decide) rfl ?_
                  refine P_aload0 (pc' := 70) dX9_lay_69 rfl ?_
                  refine P_getr (pc' := 73) dX9_lay_70 rfl fl_X9_57 rfl (l_55 hsh) (t_55 hsh) (q_55_26 hsh) ?_
                  refine P_iload1 (pc' := 74) dX9_lay_73 rfl ?_
                  refine P_iload2 (pc' := 75) dX9_lay_74 rfl ?_
                  refine P_iast (pc' := 76) dX9_lay_75 rfl (l_71 hsh) (t_71 hsh) (j := i) rfl (by omega) (by decide) ?_
                  refine P_aload0 (pc' := 77) dX9_lay_76 rfl ?_
                  refine P_getr (pc' := 80) dX9_lay_77 rfl fl_X9_60 rfl (l_55 hsh) (t_55 hsh) (q_55_27 hsh) ?_
                  refine P_iload1 (pc' := 81) dX9_lay_80 rfl ?_
                  refine P_iload2 (pc' := 82) dX9_lay_81 rfl ?_
                  refine P_iconst (pc' := 83) dX9_lay_82 rfl (v := 1) rfl ?_
                  refine P_icmp_ne (tgt := 95) (pc' := 86) dX9_lay_83 rfl rfl (fun h83 => ?_) (fun h83 => ?_)
                  · exact absurd rfl h83
                  · refine P_aload0 (pc' := 87) dX9_lay_86 rfl ?_
                    refine P_iload3 (pc' := 88) dX9_lay_87 rfl ?_
                    refine P_iconst (pc' := 89) dX9_lay_88 rfl (v := 0) rfl ?_
                    refine P_callV2 (pc' := 92) dX9_lay_89 rfl lk_X9_89 (l_55 hsh) (t_55 hsh) (c_X9_of (d := 0) (k := 0) hsh (by omega) (by decide)) (by omega) (Nat.le_of_ble_eq_true rfl) (fun r S' I' hq => ?_)
                    obtain ⟨rfl, rfl, rfl⟩ := hq
                    refine P_as (y := aR T (16 + 5 * j)) (by rw [u2_a (by decide)]; exact hI.r (by omega)) ?_
                    refine P_goto (tgt := 110) dX9_lay_92 rfl ?_
                    refine P_iast (pc' := 111) dX9_lay_110 rfl (l_72 hsh) (t_72 hsh) (j := i) rfl (by omega) (by decide) ?_
                    refine P_aload0 (pc' := 112) dX9_lay_111 rfl ?_
                    refine P_getr (pc' := 115) dX9_lay_112 rfl fl_X9_63 rfl (l_55 hsh) (t_55 hsh) (q_55_28 hsh) ?_
                    refine P_iload1 (pc' := 116) dX9_lay_115 rfl ?_
                    refine P_iload2 (pc' := 117) dX9_lay_116 rfl ?_
                    refine P_iconst (pc' := 118) dX9_lay_117 rfl (v := 1) rfl ?_
                    refine P_icmp_ne (tgt := 129) (pc' := 121) dX9_lay_118 rfl rfl (fun h118 => ?_) (fun h118 => ?_)
                    · exact absurd rfl h118
                    · refine P_aload0 (pc' := 122) dX9_lay_121 rfl ?_
                      refine P_iload3 (pc' := 123) dX9_lay_122 rfl ?_
                      refine P_callV1 (pc' := 126) dX9_lay_123 rfl lk_X9_97 (l_55 hsh) (t_55 hsh) (c_X9_worthOf (d := 2) hsh (by omega) (by rw [u2_a (by decide), u2_a (by decide), hI.r (by omega)]; exact k1) (by omega)) (by omega) (Nat.le_of_ble_eq_true rfl) (fun r S' I' hq => ?_)
                      obtain ⟨rfl, rfl, rfl⟩ := hq
                      refine P_as (y := kWorth (aR T (16 + 5 * j)) (aR T (18 + 5 * j))) (by rw [u2_a (by decide), u2_a (by decide), u2_a (by decide), u2_a (by decide), hI.r (by omega), hI.r (by omega)]) ?_
                      refine P_goto (tgt := 130) dX9_lay_126 rfl ?_
                      refine P_iast (pc' := 131) dX9_lay_130 rfl (l_73 hsh) (t_73 hsh) (j := i) rfl (by omega) (by decide) ?_
                      refine P_iconst (pc' := 132) dX9_lay_131 rfl (v := 0) rfl ?_
                      refine P_istore5 (pc' := 134) dX9_lay_132 rfl (by decide) rfl ?_
                      refine P_iload5 (pc' := 136) dX9_lay_134 rfl ?_
                      refine P_bipush (pc' := 138) dX9_lay_136 rfl (v := 24) rfl ?_
                      refine P_icmp_ge (tgt := 176) (pc' := 141) dX9_lay_138 rfl rfl (fun h138 => ?_) (fun h138 => ?_)
                      · exact absurd h138 (by decide)
                      · refine P_iload2 (pc' := 142) dX9_lay_141 rfl ?_
                        refine P_iconst (pc' := 143) dX9_lay_142 rfl (v := 2) rfl ?_
                        refine P_icmp_ne (tgt := 176) (pc' := 146) dX9_lay_143 rfl rfl (fun h143 => ?_) (fun h143 => ?_)
                        · refine P_iload4 (pc' := 178) dX9_lay_176 rfl ?_
                          refine P_iret dX9_lay_178 ?_
                          exact RO.m eo (fin _ _ _).1 (fin _ _ _).2
                        · exact absurd h143 (by decide)
                · exact absurd h46 (by decide)
              · exact absurd h31 (by decide)
  rw [if_neg y1] at eo
  by_cases y2 : y = 2
  · subst y2
    rw [if_pos rfl] at eo
    by_cases hk : wi k 0 3 = 0
    · rw [if_pos hk] at eo
      refine P_iload1 (pc' := 1) dX9_lay_0 rfl ?_
      refine P_callS1 (pc' := 4) dX9_lay_1 rfl lk_X9_250 (c_X9_isSlot (d := 1) _ (by omega)) (by omega) (Nat.le_of_ble_eq_true rfl) (fun r S' I' hq => ?_)
      obtain ⟨rfl, rfl, rfl⟩ := hq
      refine P_if_eq (tgt := 41) (pc' := 7) dX9_lay_4 rfl rfl (fun h4 => ?_) (fun h4 => ?_)
      · exact absurd h4 hb
      · refine P_iload2 (pc' := 8) dX9_lay_7 rfl ?_
        refine P_iconst (pc' := 9) dX9_lay_8 rfl (v := 0) rfl ?_
        refine P_iconst (pc' := 10) dX9_lay_9 rfl (v := 3) rfl ?_
        refine P_callS3 (pc' := 13) dX9_lay_10 rfl lk_X9_75 (c_X9_in (d := 0) 2 0 3) (by omega) (Nat.le_of_ble_eq_true rfl) (fun r S' I' hq => ?_)
        obtain ⟨rfl, rfl, rfl⟩ := hq
        refine P_if_eq (tgt := 41) (pc' := 16) dX9_lay_13 rfl rfl (fun h13 => ?_) (fun h13 => ?_)
        · exact absurd h13 hy
        · refine P_iload2 (pc' := 17) dX9_lay_16 rfl ?_
          refine P_iconst (pc' := 18) dX9_lay_17 rfl (v := 1) rfl ?_
          refine P_icmp_ne (tgt := 29) (pc' := 21) dX9_lay_18 rfl rfl (fun h18 => ?_) (fun h18 => ?_)
          · refine P_iload2 (pc' := 30) dX9_lay_29 rfl ?_
            refine P_iconst (pc' := 31) dX9_lay_30 rfl (v := 2) rfl ?_
            refine P_icmp_ne (tgt := 44) (pc' := 34) dX9_lay_31 rfl rfl (fun h31 => ?_) (fun h31 => ?_)
            · exact absurd rfl h31
            · refine P_iload3 (pc' := 35) dX9_lay_34 rfl ?_
              refine P_callS1 (pc' := 38) dX9_lay_35 rfl lk_X9_171 (c_X9_isSheet (d := 1) k (by omega)) (by omega) (Nat.le_of_ble_eq_true rfl) (fun r S' I' hq => ?_)
              obtain ⟨rfl, rfl, rfl⟩ := hq
              refine P_if_ne (tgt := 44) (pc' := 41) dX9_lay_38 rfl rfl (fun h38 => ?_) (fun h38 => ?_)
              · exact absurd hk h38
              · refine P_ldc (pc' := 43) dX9_lay_41 rfl co_X9_83 ?_
                refine P_iret dX9_lay_43 ?_
                exact RO.n eo hI
          · exact absurd h18 (by decide)
    · rw [if_neg hk] at eo
      obtain ⟨j, hj, rfl⟩ := wi_b (m := 3) (by decide) hk
      rw [nI_clamp (by omega)] at eo
      obtain ⟨s1, ⟨m, hm, s2⟩, s3⟩ := hT.2.2.2.2.1 j (by omega)
      have e68 : I 68 j = T 68 j := by rw [hI 68 (by decide) (by decide)]
      rcases s_neg s1 with z | ⟨z1, z2⟩
      · rw [if_pos z] at eo
        refine P_iload1 (pc' := 1) dX9_lay_0 rfl ?_
        refine P_callS1 (pc' := 4) dX9_lay_1 rfl lk_X9_250 (c_X9_isSlot (d := 1) _ (by omega)) (by omega) (Nat.le_of_ble_eq_true rfl) (fun r S' I' hq => ?_)
        obtain ⟨rfl, rfl, rfl⟩ := hq
        refine P_if_eq (tgt := 41) (pc' := 7) dX9_lay_4 rfl rfl (fun h4 => ?_) (fun h4 => ?_)
        · exact absurd h4 hb
        · refine P_iload2 (pc' := 8) dX9_lay_7 rfl ?_
          refine P_iconst (pc' := 9) dX9_lay_8 rfl (v := 0) rfl ?_
          refine P_iconst (pc' := 10) dX9_lay_9 rfl (v := 3) rfl ?_
          refine P_callS3 (pc' := 13) dX9_lay_10 rfl lk_X9_75 (c_X9_in (d := 0) 2 0 3) (by omega) (Nat.le_of_ble_eq_true rfl) (fun r S' I' hq => ?_)
          obtain ⟨rfl, rfl, rfl⟩ := hq
          refine P_if_eq (tgt := 41) (pc' := 16) dX9_lay_13 rfl rfl (fun h13 => ?_) (fun h13 => ?_)
          · exact absurd h13 hy
          · refine P_iload2 (pc' := 17) dX9_lay_16 rfl ?_
            refine P_iconst (pc' := 18) dX9_lay_17 rfl (v := 1) rfl ?_
            refine P_icmp_ne (tgt := 29) (pc' := 21) dX9_lay_18 rfl rfl (fun h18 => ?_) (fun h18 => ?_)
            · refine P_iload2 (pc' := 30) dX9_lay_29 rfl ?_
              refine P_iconst (pc' := 31) dX9_lay_30 rfl (v := 2) rfl ?_
              refine P_icmp_ne (tgt := 44) (pc' := 34) dX9_lay_31 rfl rfl (fun h31 => ?_) (fun h31 => ?_)
              · exact absurd rfl h31
              · refine P_iload3 (pc' := 35) dX9_lay_34 rfl ?_
                refine P_callS1 (pc' := 38) dX9_lay_35 rfl lk_X9_171 (c_X9_isSheet (d := 1) _ (by omega)) (by omega) (Nat.le_of_ble_eq_true rfl) (fun r S' I' hq => ?_)
                obtain ⟨rfl, rfl, rfl⟩ := hq
                refine P_if_ne (tgt := 44) (pc' := 41) dX9_lay_38 rfl rfl (fun h38 => ?_) (fun h38 => ?_)
                · refine P_iload2 (pc' := 45) dX9_lay_44 rfl ?_
                  refine P_iconst (pc' := 46) dX9_lay_45 rfl (v := 2) rfl ?_
                  refine P_icmp_ne (tgt := 61) (pc' := 49) dX9_lay_46 rfl rfl (fun h46 => ?_) (fun h46 => ?_)
                  · exact absurd rfl h46
                  · refine P_aload0 (pc' := 50) dX9_lay_49 rfl ?_
                    refine P_getr (pc' := 53) dX9_lay_50 rfl fl_X9_48 rfl (l_55 hsh) (t_55 hsh) (q_55_23 hsh) ?_
                    refine P_iload3 (pc' := 54) dX9_lay_53 rfl ?_
                    refine P_iald (pc' := 55) dX9_lay_54 rfl (l_68 hsh) (t_68 hsh) (j := j) rfl (by omega) (by decide) ?_
                    refine P_as (e68.trans z) ?_
                    refine P_if_ge (tgt := 61) (pc' := 58) dX9_lay_55 rfl rfl (fun h55 => ?_) (fun h55 => ?_)
                    · exact absurd h55 (by decide)
                    · refine P_ldc (pc' := 60) dX9_lay_58 rfl co_X9_174 ?_
                      refine P_iret dX9_lay_60 ?_
                      exact RO.n eo hI
                · exact absurd h38 hk
            · exact absurd h18 (by decide)
      · rw [if_neg z1] at eo
        rw [eo]
        refine P_iload1 (pc' := 1) dX9_lay_0 rfl ?_
        refine P_callS1 (pc' := 4) dX9_lay_1 rfl lk_X9_250 (c_X9_isSlot (d := 1) _ (by omega)) (by omega) (Nat.le_of_ble_eq_true rfl) (fun r S' I' hq => ?_)
        obtain ⟨rfl, rfl, rfl⟩ := hq
        refine P_if_eq (tgt := 41) (pc' := 7) dX9_lay_4 rfl rfl (fun h4 => ?_) (fun h4 => ?_)
        · exact absurd h4 hb
        · refine P_iload2 (pc' := 8) dX9_lay_7 rfl ?_
          refine P_iconst (pc' := 9) dX9_lay_8 rfl (v := 0) rfl ?_
          refine P_iconst (pc' := 10) dX9_lay_9 rfl (v := 3) rfl ?_
          refine P_callS3 (pc' := 13) dX9_lay_10 rfl lk_X9_75 (c_X9_in (d := 0) 2 0 3) (by omega) (Nat.le_of_ble_eq_true rfl) (fun r S' I' hq => ?_)
          obtain ⟨rfl, rfl, rfl⟩ := hq
          refine P_if_eq (tgt := 41) (pc' := 16) dX9_lay_13 rfl rfl (fun h13 => ?_) (fun h13 => ?_)
          · exact absurd h13 hy
          · refine P_iload2 (pc' := 17) dX9_lay_16 rfl ?_
            refine P_iconst (pc' := 18) dX9_lay_17 rfl (v := 1) rfl ?_
            refine P_icmp_ne (tgt := 29) (pc' := 21) dX9_lay_18 rfl rfl (fun h18 => ?_) (fun h18 => ?_)
            · refine P_iload2 (pc' := 30) dX9_lay_29 rfl ?_
              refine P_iconst (pc' := 31) dX9_lay_30 rfl (v := 2) rfl ?_
              refine P_icmp_ne (tgt := 44) (pc' := 34) dX9_lay_31 rfl rfl (fun h31 => ?_) (fun h31 => ?_)
              · exact absurd rfl h31
              · refine P_iload3 (pc' := 35) dX9_lay_34 rfl ?_
                refine P_callS1 (pc' := 38) dX9_lay_35 rfl lk_X9_171 (c_X9_isSheet (d := 1) _ (by omega)) (by omega) (Nat.le_of_ble_eq_true rfl) (fun r S' I' hq => ?_)
                obtain ⟨rfl, rfl, rfl⟩ := hq
                refine P_if_ne (tgt := 44) (pc' := 41) dX9_lay_38 rfl rfl (fun h38 => ?_) (fun h38 => ?_)
                · refine P_iload2 (pc' := 45) dX9_lay_44 rfl ?_
                  refine P_iconst (pc' := 46) dX9_lay_45 rfl (v := 2) rfl ?_
                  refine P_icmp_ne (tgt := 61) (pc' := 49) dX9_lay_46 rfl rfl (fun h46 => ?_) (fun h46 => ?_)
                  · exact absurd rfl h46
                  · refine P_aload0 (pc' := 50) dX9_lay_49 rfl ?_
                    refine P_getr (pc' := 53) dX9_lay_50 rfl fl_X9_48 rfl (l_55 hsh) (t_55 hsh) (q_55_23 hsh) ?_
                    refine P_iload3 (pc' := 54) dX9_lay_53 rfl ?_
                    refine P_iald (pc' := 55) dX9_lay_54 rfl (l_68 hsh) (t_68 hsh) (j := j) rfl (by omega) (by decide) ?_
                    refine P_as e68 ?_
                    refine P_if_ge (tgt := 61) (pc' := 58) dX9_lay_55 rfl rfl (fun h55 => ?_) (fun h55 => ?_)
                    · refine P_aload0 (pc' := 62) dX9_lay_61 rfl ?_
                      refine P_getr (pc' := 65) dX9_lay_62 rfl fl_X9_57 rfl (l_55 hsh) (t_55 hsh) (q_55_26 hsh) ?_
                      refine P_iload1 (pc' := 66) dX9_lay_65 rfl ?_
                      refine P_iald (pc' := 67) dX9_lay_66 rfl (l_71 hsh) (t_71 hsh) (j := i) rfl (by omega) (by decide) ?_
                      rw [e71]
                      refine P_istore4 (pc' := 69) dX9_lay_67 rfl (by decide) rfl ?_
                      refine P_aload0 (pc' := 70) dX9_lay_69 rfl ?_
                      refine P_getr (pc' := 73) dX9_lay_70 rfl fl_X9_57 rfl (l_55 hsh) (t_55 hsh) (q_55_26 hsh) ?_
                      refine P_iload1 (pc' := 74) dX9_lay_73 rfl ?_
                      refine P_iload2 (pc' := 75) dX9_lay_74 rfl ?_
                      refine P_iast (pc' := 76) dX9_lay_75 rfl (l_71 hsh) (t_71 hsh) (j := i) rfl (by omega) (by decide) ?_
                      refine P_aload0 (pc' := 77) dX9_lay_76 rfl ?_
                      refine P_getr (pc' := 80) dX9_lay_77 rfl fl_X9_60 rfl (l_55 hsh) (t_55 hsh) (q_55_27 hsh) ?_
                      refine P_iload1 (pc' := 81) dX9_lay_80 rfl ?_
                      refine P_iload2 (pc' := 82) dX9_lay_81 rfl ?_
                      refine P_iconst (pc' := 83) dX9_lay_82 rfl (v := 1) rfl ?_
                      refine P_icmp_ne (tgt := 95) (pc' := 86) dX9_lay_83 rfl rfl (fun h83 => ?_) (fun h83 => ?_)
                      · refine P_iload2 (pc' := 96) dX9_lay_95 rfl ?_
                        refine P_iconst (pc' := 97) dX9_lay_96 rfl (v := 2) rfl ?_
                        refine P_icmp_ne (tgt := 109) (pc' := 100) dX9_lay_97 rfl rfl (fun h97 => ?_) (fun h97 => ?_)
                        · exact absurd rfl h97
                        · refine P_aload0 (pc' := 101) dX9_lay_100 rfl ?_
                          refine P_getr (pc' := 104) dX9_lay_101 rfl fl_X9_51 rfl (l_55 hsh) (t_55 hsh) (q_55_24 hsh) ?_
                          refine P_iload3 (pc' := 105) dX9_lay_104 rfl ?_
                          refine P_iald (pc' := 106) dX9_lay_105 rfl (l_69 hsh) (t_69 hsh) (j := j) rfl (by omega) (by decide) ?_
                          refine P_as (y := T 69 j) (by rw [u2_a (by decide), hI 69 (by decide) (by decide)]) ?_
                          refine P_goto (tgt := 110) dX9_lay_106 rfl ?_
                          refine P_iast (pc' := 111) dX9_lay_110 rfl (l_72 hsh) (t_72 hsh) (j := i) rfl (by omega) (by decide) ?_
                          refine P_aload0 (pc' := 112) dX9_lay_111 rfl ?_
                          refine P_getr (pc' := 115) dX9_lay_112 rfl fl_X9_63 rfl (l_55 hsh) (t_55 hsh) (q_55_28 hsh) ?_
                          refine P_iload1 (pc' := 116) dX9_lay_115 rfl ?_
                          refine P_iload2 (pc' := 117) dX9_lay_116 rfl ?_
                          refine P_iconst (pc' := 118) dX9_lay_117 rfl (v := 1) rfl ?_
                          refine P_icmp_ne (tgt := 129) (pc' := 121) dX9_lay_118 rfl rfl (fun h118 => ?_) (fun h118 => ?_)
                          · refine P_iconst (pc' := 130) dX9_lay_129 rfl (v := 0) rfl ?_
                            refine P_iast (pc' := 131) dX9_lay_130 rfl (l_73 hsh) (t_73 hsh) (j := i) rfl (by omega) (by decide) ?_
                            refine P_iconst (pc' := 132) dX9_lay_131 rfl (v := 0) rfl ?_
                            refine P_istore5 (pc' := 134) dX9_lay_132 rfl (by decide) rfl ?_
                            have h := lp_X9_lay (G := G) (S := S) (d := d) (b := i) (k := j) (a := T 69 j) (c := 0) (v := T 71 i) hsh hI (by omega) (by omega) 24 0 (I 74) (by omega) (fun l => by rw [if_neg (by omega), hI 74 (by decide) (by decide)])
                            rw [show sR (lyU I i 2 (T 69 j) 0) 74 (I 74) = lyU I i 2 (T 69 j) 0 from ?_] at h
                            · exact h
                            · have e : lyU I i 2 (T 69 j) 0 74 = I 74 := lyU_o (by decide) (by decide) (by decide)
                              rw [← e, sR_self]
                          · exact absurd h118 (by decide)
                      · exact absurd h83 (by decide)
                    · exact absurd z2 h55
                · exact absurd h38 hk
            · exact absurd h18 (by decide)
  rw [if_neg y2] at eo
  refine P_iload1 (pc' := 1) dX9_lay_0 rfl ?_
  refine P_callS1 (pc' := 4) dX9_lay_1 rfl lk_X9_250 (c_X9_isSlot (d := 1) _ (by omega)) (by omega) (Nat.le_of_ble_eq_true rfl) (fun r S' I' hq => ?_)
  obtain ⟨rfl, rfl, rfl⟩ := hq
  refine P_if_eq (tgt := 41) (pc' := 7) dX9_lay_4 rfl rfl (fun h4 => ?_) (fun h4 => ?_)
  · exact absurd h4 hb
  · refine P_iload2 (pc' := 8) dX9_lay_7 rfl ?_
    refine P_iconst (pc' := 9) dX9_lay_8 rfl (v := 0) rfl ?_
    refine P_iconst (pc' := 10) dX9_lay_9 rfl (v := 3) rfl ?_
    refine P_callS3 (pc' := 13) dX9_lay_10 rfl lk_X9_75 (c_X9_in (d := 0) y 0 3) (by omega) (Nat.le_of_ble_eq_true rfl) (fun r S' I' hq => ?_)
    obtain ⟨rfl, rfl, rfl⟩ := hq
    refine P_if_eq (tgt := 41) (pc' := 16) dX9_lay_13 rfl rfl (fun h13 => ?_) (fun h13 => ?_)
    · exact absurd h13 hy
    · refine P_iload2 (pc' := 17) dX9_lay_16 rfl ?_
      refine P_iconst (pc' := 18) dX9_lay_17 rfl (v := 1) rfl ?_
      refine P_icmp_ne (tgt := 29) (pc' := 21) dX9_lay_18 rfl rfl (fun h18 => ?_) (fun h18 => ?_)
      · refine P_iload2 (pc' := 30) dX9_lay_29 rfl ?_
        refine P_iconst (pc' := 31) dX9_lay_30 rfl (v := 2) rfl ?_
        refine P_icmp_ne (tgt := 44) (pc' := 34) dX9_lay_31 rfl rfl (fun h31 => ?_) (fun h31 => ?_)
        · refine P_iload2 (pc' := 45) dX9_lay_44 rfl ?_
          refine P_iconst (pc' := 46) dX9_lay_45 rfl (v := 2) rfl ?_
          refine P_icmp_ne (tgt := 61) (pc' := 49) dX9_lay_46 rfl rfl (fun h46 => ?_) (fun h46 => ?_)
          · refine P_aload0 (pc' := 62) dX9_lay_61 rfl ?_
            refine P_getr (pc' := 65) dX9_lay_62 rfl fl_X9_57 rfl (l_55 hsh) (t_55 hsh) (q_55_26 hsh) ?_
            refine P_iload1 (pc' := 66) dX9_lay_65 rfl ?_
            refine P_iald (pc' := 67) dX9_lay_66 rfl (l_71 hsh) (t_71 hsh) (j := i) rfl (by omega) (by decide) ?_
            rw [e71]
            refine P_istore4 (pc' := 69) dX9_lay_67 rfl (by decide) rfl ?_
            refine P_aload0 (pc' := 70) dX9_lay_69 rfl ?_
            refine P_getr (pc' := 73) dX9_lay_70 rfl fl_X9_57 rfl (l_55 hsh) (t_55 hsh) (q_55_26 hsh) ?_
            refine P_iload1 (pc' := 74) dX9_lay_73 rfl ?_
            refine P_iload2 (pc' := 75) dX9_lay_74 rfl ?_
            refine P_iast (pc' := 76) dX9_lay_75 rfl (l_71 hsh) (t_71 hsh) (j := i) rfl (by omega) (by decide) ?_
            refine P_aload0 (pc' := 77) dX9_lay_76 rfl ?_
            refine P_getr (pc' := 80) dX9_lay_77 rfl fl_X9_60 rfl (l_55 hsh) (t_55 hsh) (q_55_27 hsh) ?_
            refine P_iload1 (pc' := 81) dX9_lay_80 rfl ?_
            refine P_iload2 (pc' := 82) dX9_lay_81 rfl ?_
            refine P_iconst (pc' := 83) dX9_lay_82 rfl (v := 1) rfl ?_
            refine P_icmp_ne (tgt := 95) (pc' := 86) dX9_lay_83 rfl rfl (fun h83 => ?_) (fun h83 => ?_)
            · refine P_iload2 (pc' := 96) dX9_lay_95 rfl ?_
              refine P_iconst (pc' := 97) dX9_lay_96 rfl (v := 2) rfl ?_
              refine P_icmp_ne (tgt := 109) (pc' := 100) dX9_lay_97 rfl rfl (fun h97 => ?_) (fun h97 => ?_)
              · refine P_iload3 (pc' := 110) dX9_lay_109 rfl ?_
                refine P_iast (pc' := 111) dX9_lay_110 rfl (l_72 hsh) (t_72 hsh) (j := i) rfl (by omega) (by decide) ?_
                refine P_aload0 (pc' := 112) dX9_lay_111 rfl ?_
                refine P_getr (pc' := 115) dX9_lay_112 rfl fl_X9_63 rfl (l_55 hsh) (t_55 hsh) (q_55_28 hsh) ?_
                refine P_iload1 (pc' := 116) dX9_lay_115 rfl ?_
                refine P_iload2 (pc' := 117) dX9_lay_116 rfl ?_
                refine P_iconst (pc' := 118) dX9_lay_117 rfl (v := 1) rfl ?_
                refine P_icmp_ne (tgt := 129) (pc' := 121) dX9_lay_118 rfl rfl (fun h118 => ?_) (fun h118 => ?_)
                · refine P_iconst (pc' := 130) dX9_lay_129 rfl (v := 0) rfl ?_
                  refine P_iast (pc' := 131) dX9_lay_130 rfl (l_73 hsh) (t_73 hsh) (j := i) rfl (by omega) (by decide) ?_
                  refine P_iconst (pc' := 132) dX9_lay_131 rfl (v := 0) rfl ?_
                  refine P_istore5 (pc' := 134) dX9_lay_132 rfl (by decide) rfl ?_
                  refine P_iload5 (pc' := 136) dX9_lay_134 rfl ?_
                  refine P_bipush (pc' := 138) dX9_lay_136 rfl (v := 24) rfl ?_
                  refine P_icmp_ge (tgt := 176) (pc' := 141) dX9_lay_138 rfl rfl (fun h138 => ?_) (fun h138 => ?_)
                  · exact absurd h138 (by decide)
                  · refine P_iload2 (pc' := 142) dX9_lay_141 rfl ?_
                    refine P_iconst (pc' := 143) dX9_lay_142 rfl (v := 2) rfl ?_
                    refine P_icmp_ne (tgt := 176) (pc' := 146) dX9_lay_143 rfl rfl (fun h143 => ?_) (fun h143 => ?_)
                    · refine P_iload4 (pc' := 178) dX9_lay_176 rfl ?_
                      refine P_iret dX9_lay_178 ?_
                      exact RO.m eo (fin _ _ _).1 (fin _ _ _).2
                    · exact absurd h143 y2
                · exact absurd h118 y1
              · exact absurd h97 y2
            · exact absurd h83 y1
          · exact absurd h46 y2
        · exact absurd h31 y2
      · exact absurd h18 y1

