/-! rows that are checked -/
def ckF (al : Int32 → Int32 → Int32 → Int32) (n m : Nat) (f : Nat → Int32) : Nat → Nat → (Nat → Int32) → Int32
  | 0, i, _ => if 2 * i < m then nI (1 + 2 * i) else 0
  | k + 1, i, A => if 2 * i < m ∧ f (2 * i) = aSum (aHour al n A) 19 n then (if 2 * i + 1 < m ∧ f (2 * i + 1) = aSum (aHour al n A) 20 n then ckF al n m f k (i + 1) (aHour al n A) else nI (2 + 2 * i)) else nI (1 + 2 * i)
theorem ckF_s (al : Int32 → Int32 → Int32 → Int32) (n m : Nat) (f : Nat → Int32) (k i : Nat) (A : Nat → Int32) : ckF al n m f (k + 1) i A = if 2 * i < m ∧ f (2 * i) = aSum (aHour al n A) 19 n then (if 2 * i + 1 < m ∧ f (2 * i + 1) = aSum (aHour al n A) 20 n then ckF al n m f k (i + 1) (aHour al n A) else nI (2 + 2 * i)) else nI (1 + 2 * i) := rfl
def vChk (T : Mem) (bn : Nat) (tx : Nat → Tx) (y : Int32) : Int32 := if wi y 1 30 = 0 then -1000000001 else if T 55 3 = 0 then -1000000002 else ckF (alX bn tx) (aB T 1).toNatClampNeg (T 55 32).toNatClampNeg (T 76) (min y.toNatClampNeg (9999 - (aB T 2).toNatClampNeg)) 0 (aB T)
theorem stF_y {I : Mem} {p m : Nat} {due : Int32} (h : ¬ stF I p m due = 0) : p < m ∧ I 31 p = due := Classical.byContradiction (fun z => h (if_neg z))
theorem stF_n {I : Mem} {p m : Nat} {due : Int32} (h : stF I p m due = 0) : ¬ (p < m ∧ I 31 p = due) := fun z => by
  rw [show stF I p m due = 1 from if_pos z] at h
  exact absurd h (by decide)
theorem lp_X8_check {G : GX} {S : Shp} {I0 U : Mem} {d tn bn n m q : Nat} {tx : Nat → Tx} {y v : Int32} {f : Nat → Int32} {al : Int32 → Int32 → Int32 → Int32} (hn : n ≤ 8) (hm : m ≤ 60) (hq : q ≤ 30) (hd : 12 ≤ d) (hf76 : ∀ k, k < 60 → U 76 k = f k) : ∀ (k i : Nat) (A : Nat → Int32) (I : Mem), i + k = q → WA A n → K S I U tn bn tx → AlOk S I al → aC 8 I = A → (∀ x, 55 ≤ x → x < 77 → I x = I0 x) → ckF al n m f k i A = v → PW G RX8 "check" cX8_check 5 (some .int) d 0 0 (CO I0 U tn bn tx v) 83 [some (.ref 0), some (.int y), some (.int (nI m)), some (.int (nI q)), some (.int (nI i))] [] S I := by
  intro k
  induction k with
  | zero =>
    intro i A I hi hw hK hal h8 hf hv
    have hsh := hK.2.1
    have hi : i = q := by omega
    subst hi
    have e2 : (2 : Int32) * nI i = nI (2 * i) := pk_mul 2 i
    have e3 : (1 : Int32) + nI (2 * i) = nI (1 + 2 * i) := nI_add 1 (2 * i)
    have hv : (if 2 * i < m then nI (1 + 2 * i) else 0) = v := hv
    refine P_iload4 (pc' := 85) dX8_check_83 rfl ?_
    refine P_iload3 (pc' := 86) dX8_check_85 rfl ?_
    refine P_icmp_ge (tgt := 162) (pc' := 89) dX8_check_86 rfl rfl (fun h86 => ?_) (fun h86 => ?_)
    · refine P_iload2 (pc' := 163) dX8_check_162 rfl ?_
      refine P_iconst (pc' := 164) dX8_check_163 rfl (v := 2) rfl ?_
      refine P_iload3 (pc' := 165) dX8_check_164 rfl ?_
      refine P_imul (pc' := 166) dX8_check_165 rfl ?_
      refine P_as e2 ?_
      refine P_icmp_le (tgt := 177) (pc' := 169) dX8_check_166 rfl rfl (fun h166 => ?_) (fun h166 => ?_)
      · refine P_iconst (pc' := 178) dX8_check_177 rfl (v := 0) rfl ?_
        refine P_iret dX8_check_178 ?_
        first
          | (rw [← hv, if_neg (Nat.not_lt.mpr ((nI_leI (by omega) (by omega)).mp h166))]; exact ⟨rfl, hK, hf⟩)
          | (rw [← hv, if_pos (g0 h166 (by omega) (by omega))]; exact ⟨rfl, hK, hf⟩)
      · refine P_iconst (pc' := 170) dX8_check_169 rfl (v := 1) rfl ?_
        refine P_iconst (pc' := 171) dX8_check_170 rfl (v := 2) rfl ?_
        refine P_iload3 (pc' := 172) dX8_check_171 rfl ?_
        refine P_imul (pc' := 173) dX8_check_172 rfl ?_
        refine P_as e2 ?_
        refine P_iadd (pc' := 174) dX8_check_173 rfl ?_
        refine P_as e3 ?_
        refine P_goto (tgt := 178) dX8_check_174 rfl ?_
        refine P_iret dX8_check_178 ?_
        first
          | (rw [← hv, if_neg (Nat.not_lt.mpr ((nI_leI (by omega) (by omega)).mp h166))]; exact ⟨rfl, hK, hf⟩)
          | (rw [← hv, if_pos (g0 h166 (by omega) (by omega))]; exact ⟨rfl, hK, hf⟩)
    · exact absurd (nI_le (by omega) (by omega)) h86
  | succ k ih =>
    intro i A I hi hw hK hal h8 hf hv
    have hsh := hK.2.1
    have e2 : (2 : Int32) * nI i = nI (2 * i) := pk_mul 2 i
    have e3 : (1 : Int32) + nI (2 * i) = nI (1 + 2 * i) := nI_add 1 (2 * i)
    have e4 : nI (2 * i) + 1 = nI (2 * i + 1) := nI_1 (2 * i)
    have e5 : nI (1 + 2 * i) + 1 = nI (2 + 2 * i) := by rw [nI_1]; congr 1; omega
    rw [ckF_s] at hv
    refine P_iload4 (pc' := 85) dX8_check_83 rfl ?_
    refine P_iload3 (pc' := 86) dX8_check_85 rfl ?_
    refine P_icmp_ge (tgt := 162) (pc' := 89) dX8_check_86 rfl rfl (fun h86 => ?_) (fun h86 => ?_)
    · exact absurd h86 (nI_ge (by omega) (by omega))
    · refine P_aload0 (pc' := 90) dX8_check_89 rfl ?_
      refine P_getr (pc' := 93) dX8_check_90 rfl fl_X8_16 rfl (l_0 hsh) (t_0 hsh) (q_0_1 hsh) ?_
      refine P_aload0 (pc' := 94) dX8_check_93 rfl ?_
      refine P_getr (pc' := 97) dX8_check_94 rfl fl_X8_47 rfl (l_0 hsh) (t_0 hsh) (q_0_7 hsh) ?_
      refine P_callV1 (pc' := 100) dX8_check_97 rfl lk_X8_298 (l_8 hsh) (t_8 hsh) (c_X5_passHour (d := 6) (n := n) hsh (Or.inr (Or.inl rfl)) hal (by rw [h8]; exact hw) (by omega)) (by omega) (Nat.le_of_ble_eq_true rfl) (fun r S3 I3 hq => ?_)
      obtain ⟨rfl, rfl, hP⟩ := hq
      rw [h8] at hP
      have hz3 := P8_n hP (aHour_wa hw)
      have hK3 := hK.p8 hP
      have c31 : ∀ p, p < m → I3 31 p = f p := fun p hp => by rw [hK3.2.2.2.2.2.2.2.2.1.2 p (by omega)]; exact hf76 p (by omega)
      have hf3 : ∀ x, 55 ≤ x → x < 77 → I3 x = I0 x := fun x h1 h2 => by rw [hP.2.2 x (by unfold Scr; omega) (by omega)]; exact hf x h1 h2
      refine P_aload0 (pc' := 101) dX8_check_100 rfl ?_
      refine P_iconst (pc' := 102) dX8_check_101 rfl (v := 2) rfl ?_
      refine P_iload4 (pc' := 104) dX8_check_102 rfl ?_
      refine P_imul (pc' := 105) dX8_check_104 rfl ?_
      refine P_as e2 ?_
      refine P_iload2 (pc' := 106) dX8_check_105 rfl ?_
      refine P_aload0 (pc' := 107) dX8_check_106 rfl ?_
      refine P_getr (pc' := 110) dX8_check_107 rfl fl_X8_16 rfl (l_0 hsh) (t_0 hsh) (q_0_1 hsh) ?_
      refine P_callV0 (pc' := 113) dX8_check_110 rfl lk_X8_173 (l_8 hsh) (t_8 hsh) (c_X5_allPurses (d := 1) (n := n) hsh (Or.inr (Or.inl rfl)) hz3 (by omega)) (by omega) (Nat.le_of_ble_eq_true rfl) (fun r S' I' hq => ?_)
      obtain ⟨rfl, rfl, rfl⟩ := hq
      refine P_callV3 (pc' := 116) dX8_check_113 rfl lk_X8_302 (l_0 hsh) (t_0 hsh) (c_X8_stands (d := 1) hsh (by omega) hm) (by omega) (Nat.le_of_ble_eq_true rfl) (fun r S' I' hq => ?_)
      obtain ⟨rfl, rfl, rfl⟩ := hq
      refine P_if_ne (tgt := 126) (pc' := 119) dX8_check_116 rfl rfl (fun h116 => ?_) (fun h116 => ?_)
      · refine P_aload0 (pc' := 127) dX8_check_126 rfl ?_
        refine P_iconst (pc' := 128) dX8_check_127 rfl (v := 2) rfl ?_
        refine P_iload4 (pc' := 130) dX8_check_128 rfl ?_
        refine P_imul (pc' := 131) dX8_check_130 rfl ?_
        refine P_as e2 ?_
        refine P_iconst (pc' := 132) dX8_check_131 rfl (v := 1) rfl ?_
        refine P_iadd (pc' := 133) dX8_check_132 rfl ?_
        refine P_as e4 ?_
        refine P_iload2 (pc' := 134) dX8_check_133 rfl ?_
        refine P_aload0 (pc' := 135) dX8_check_134 rfl ?_
        refine P_getr (pc' := 138) dX8_check_135 rfl fl_X8_16 rfl (l_0 hsh) (t_0 hsh) (q_0_1 hsh) ?_
        refine P_callV0 (pc' := 141) dX8_check_138 rfl lk_X8_163 (l_8 hsh) (t_8 hsh) (c_X5_allHats (d := 1) (n := n) hsh (Or.inr (Or.inl rfl)) hz3 (by omega)) (by omega) (Nat.le_of_ble_eq_true rfl) (fun r S' I' hq => ?_)
        obtain ⟨rfl, rfl, rfl⟩ := hq
        refine P_callV3 (pc' := 144) dX8_check_141 rfl lk_X8_302 (l_0 hsh) (t_0 hsh) (c_X8_stands (d := 1) hsh (by omega) hm) (by omega) (Nat.le_of_ble_eq_true rfl) (fun r S' I' hq => ?_)
        obtain ⟨rfl, rfl, rfl⟩ := hq
        refine P_if_ne (tgt := 156) (pc' := 147) dX8_check_144 rfl rfl (fun h144 => ?_) (fun h144 => ?_)
        · refine P_iinc4 (pc' := 159) dX8_check_156 rfl (nI_1 i) (by decide) rfl ?_
          refine P_goto (tgt := 83) dX8_check_159 rfl ?_
          have z1 := stF_y h116
          have z2 := stF_y h144
          rw [if_pos ⟨z1.1, by rw [← c31 _ z1.1, ← hP.1]; exact z1.2⟩, if_pos ⟨z2.1, by rw [← c31 _ z2.1, ← hP.1]; exact z2.2⟩] at hv
          exact ih (i + 1) _ I3 (by omega) (aHour_wa hw) hK3 hP.2.1 hP.1 hf3 hv
        · refine P_iconst (pc' := 148) dX8_check_147 rfl (v := 1) rfl ?_
          refine P_iconst (pc' := 149) dX8_check_148 rfl (v := 2) rfl ?_
          refine P_iload4 (pc' := 151) dX8_check_149 rfl ?_
          refine P_imul (pc' := 152) dX8_check_151 rfl ?_
          refine P_as e2 ?_
          refine P_iadd (pc' := 153) dX8_check_152 rfl ?_
          refine P_as e3 ?_
          refine P_iconst (pc' := 154) dX8_check_153 rfl (v := 1) rfl ?_
          refine P_iadd (pc' := 155) dX8_check_154 rfl ?_
          refine P_as e5 ?_
          refine P_iret dX8_check_155 ?_
          have z1 := stF_y h116
          have z := stF_n h144
          rw [if_pos ⟨z1.1, by rw [← c31 _ z1.1, ← hP.1]; exact z1.2⟩, if_neg (fun q => z ⟨q.1, by rw [c31 _ q.1, hP.1]; exact q.2⟩)] at hv
          rw [← hv]
          exact ⟨rfl, hK3, hf3⟩
      · refine P_iconst (pc' := 120) dX8_check_119 rfl (v := 1) rfl ?_
        refine P_iconst (pc' := 121) dX8_check_120 rfl (v := 2) rfl ?_
        refine P_iload4 (pc' := 123) dX8_check_121 rfl ?_
        refine P_imul (pc' := 124) dX8_check_123 rfl ?_
        refine P_as e2 ?_
        refine P_iadd (pc' := 125) dX8_check_124 rfl ?_
        refine P_as e3 ?_
        refine P_iret dX8_check_125 ?_
        have z := stF_n h116
        rw [if_neg (fun q => z ⟨q.1, by rw [c31 _ q.1, hP.1]; exact q.2⟩)] at hv
        rw [← hv]
        exact ⟨rfl, hK3, hf3⟩
theorem x_check {G : GX} {S : Shp} {I T : Mem} {d tn bn : Nat} {tx : Nat → Tx} (hK : K S I T tn bn tx) (y : Int32) (hd : 12 ≤ d) : PM G yX8_check cX8_check 5 (some .int) d 0 0 [.ref 0, .int y] S I (CO I (u2 T 55 32 0) tn bn tx (vChk T bn tx y)) := by
  have hsh := hK.2.1
  obtain ⟨m, hm, em⟩ := hK.1.2.2.2.2.2.2.1
  obtain ⟨c9, c9'⟩ := hK.2.2.2.2.2.2.2.2.1
  have e3 : I 0 3 = T 55 3 := hK.2.2.2.1.1
  have hK1 : K S (u2 I 0 11 0) (u2 T 55 32 0) tn bn tx := hK.wait (fun x h1 h2 => u2_row h1) (u2_k (by decide)) (fun x h1 h2 => u2_row h1) (fun k hk => u2_k hk) ⟨0, by decide, u2_s _ _ _ _⟩ ⟨by rw [u2_s, u2_s], fun k hk => by rw [u2_a (by decide), u2_a (by decide)]; exact c9' k hk⟩
  have hf1 : ∀ x, 55 ≤ x → x < 77 → u2 I 0 11 0 x = I x := fun x h1 h2 => u2_row (by omega)
  refine PM.of (ls := [some (.ref 0), some (.int y), none, none, none]) (by decide) rfl (Nat.le_of_ble_eq_true rfl) rfl ?_
  show PW G RX8 "check" _ _ _ _ _ _ _ _ _ _ _ _
  by_cases hy : wi y 1 30 = 0
  · rw [show vChk T bn tx y = -1000000001 from if_pos hy]
    refine P_aload0 (pc' := 1) dX8_check_0 rfl ?_
    refine P_geti (pc' := 4) dX8_check_1 rfl fl_X8_67 rfl (l_0 hsh) (t_0 hsh) ?_
    refine P_istore2 (pc' := 5) dX8_check_4 rfl (by decide) rfl ?_
    refine P_aload0 (pc' := 6) dX8_check_5 rfl ?_
    refine P_iconst (pc' := 7) dX8_check_6 rfl (v := 0) rfl ?_
    refine P_puti (pc' := 10) dX8_check_7 rfl fl_X8_67 rfl (l_0 hsh) (t_0 hsh) ?_
    refine P_iload1 (pc' := 11) dX8_check_10 rfl ?_
    refine P_iconst (pc' := 12) dX8_check_11 rfl (v := 1) rfl ?_
    refine P_bipush (pc' := 14) dX8_check_12 rfl (v := 30) rfl ?_
    refine P_callS3 (pc' := 17) dX8_check_14 rfl lk_X8_77 (c_X8_wi (d := 0) y 1 30) (by omega) (Nat.le_of_ble_eq_true rfl) (fun r S' I' hq => ?_)
    obtain ⟨rfl, rfl, rfl⟩ := hq
    refine P_if_ne (tgt := 23) (pc' := 20) dX8_check_17 rfl rfl (fun h17 => ?_) (fun h17 => ?_)
    · exact absurd hy h17
    · refine P_ldc (pc' := 22) dX8_check_20 rfl co_X8_81 ?_
      refine P_iret dX8_check_22 ?_
      exact ⟨rfl, hK1, hf1⟩
  by_cases h3 : T 55 3 = 0
  · rw [show vChk T bn tx y = -1000000002 from (if_neg hy).trans (if_pos h3)]
    refine P_aload0 (pc' := 1) dX8_check_0 rfl ?_
    refine P_geti (pc' := 4) dX8_check_1 rfl fl_X8_67 rfl (l_0 hsh) (t_0 hsh) ?_
    refine P_istore2 (pc' := 5) dX8_check_4 rfl (by decide) rfl ?_
    refine P_aload0 (pc' := 6) dX8_check_5 rfl ?_
    refine P_iconst (pc' := 7) dX8_check_6 rfl (v := 0) rfl ?_
    refine P_puti (pc' := 10) dX8_check_7 rfl fl_X8_67 rfl (l_0 hsh) (t_0 hsh) ?_
    refine P_iload1 (pc' := 11) dX8_check_10 rfl ?_
    refine P_iconst (pc' := 12) dX8_check_11 rfl (v := 1) rfl ?_
    refine P_bipush (pc' := 14) dX8_check_12 rfl (v := 30) rfl ?_
    refine P_callS3 (pc' := 17) dX8_check_14 rfl lk_X8_77 (c_X8_wi (d := 0) y 1 30) (by omega) (Nat.le_of_ble_eq_true rfl) (fun r S' I' hq => ?_)
    obtain ⟨rfl, rfl, rfl⟩ := hq
    refine P_if_ne (tgt := 23) (pc' := 20) dX8_check_17 rfl rfl (fun h17 => ?_) (fun h17 => ?_)
    · refine P_aload0 (pc' := 24) dX8_check_23 rfl ?_
      refine P_geti (pc' := 27) dX8_check_24 rfl fl_X8_22 rfl (l_0 hsh) (t_0 hsh) ?_
      refine P_as (show u2 I 0 11 0 0 3 = T 55 3 by rw [u2_k (by decide)]; exact e3) ?_
      refine P_if_ne (tgt := 34) (pc' := 30) dX8_check_27 rfl rfl (fun h27 => ?_) (fun h27 => ?_)
      · exact absurd h3 h27
      · refine P_ldcw (pc' := 33) dX8_check_30 rfl co_X8_294 ?_
        refine P_iret dX8_check_33 ?_
        exact ⟨rfl, hK1, hf1⟩
    · exact absurd h17 hy
  have h31 : T 55 3 = 1 := hK.1.2.2.2.1.1.resolve_left h3
  obtain ⟨⟨⟨n, hn, hw⟩, ⟨g, hg, eg, -⟩, -⟩, hRT⟩ := hK.1.2.2.2.1.2 h31
  have hbn := hK.1.2.2.1
  have e15 : aC 15 I = aB T := hK.2.2.2.1.2 h31
  have e7 : I 15 13 = nI bn := by
    have e : aC 15 I 7 = I 15 13 := rfl
    have e2 : sR T 56 (T 57) 56 7 = nI bn := hRT.2.1
    rw [sR_s] at e2
    rw [← e, e15, ← e2]
    rfl
  have e2 : I 15 11 = nI g := by
    have e : aC 15 I 2 = I 15 11 := rfl
    rw [← e, e15]; exact eg
  have e4 : I 15 8 = 0 ∨ I 15 8 = 1 := by
    have e : aC 15 I 4 = I 15 8 := rfl
    rw [← e, e15]; exact hw.2.2.1
  obtain ⟨j, j1, j30, rfl⟩ := wi_b1 (m := 30) (by decide) hy
  have ev : vChk T bn tx (nI j) = ckF (alX bn tx) n m (T 76) (min j (9999 - g)) 0 (aB T) := by unfold vChk; rw [if_neg hy, if_neg h3, nI_clamp (by omega), hw.1, nI_clamp (by omega), em, nI_clamp (by omega), eg, nI_clamp (by omega)]
  rw [ev]
  refine P_aload0 (pc' := 1) dX8_check_0 rfl ?_
  refine P_geti (pc' := 4) dX8_check_1 rfl fl_X8_67 rfl (l_0 hsh) (t_0 hsh) ?_
  refine P_as (c9.trans em) ?_
  refine P_istore2 (pc' := 5) dX8_check_4 rfl (by decide) rfl ?_
  refine P_aload0 (pc' := 6) dX8_check_5 rfl ?_
  refine P_iconst (pc' := 7) dX8_check_6 rfl (v := 0) rfl ?_
  refine P_puti (pc' := 10) dX8_check_7 rfl fl_X8_67 rfl (l_0 hsh) (t_0 hsh) ?_
  refine P_iload1 (pc' := 11) dX8_check_10 rfl ?_
  refine P_iconst (pc' := 12) dX8_check_11 rfl (v := 1) rfl ?_
  refine P_bipush (pc' := 14) dX8_check_12 rfl (v := 30) rfl ?_
  refine P_callS3 (pc' := 17) dX8_check_14 rfl lk_X8_77 (c_X8_wi (d := 0) _ 1 30) (by omega) (Nat.le_of_ble_eq_true rfl) (fun r S' I' hq => ?_)
  obtain ⟨rfl, rfl, rfl⟩ := hq
  refine P_if_ne (tgt := 23) (pc' := 20) dX8_check_17 rfl rfl (fun h17 => ?_) (fun h17 => ?_)
  · refine P_aload0 (pc' := 24) dX8_check_23 rfl ?_
    refine P_geti (pc' := 27) dX8_check_24 rfl fl_X8_22 rfl (l_0 hsh) (t_0 hsh) ?_
    refine P_as (show u2 I 0 11 0 0 3 = T 55 3 by rw [u2_k (by decide)]; exact e3) ?_
    refine P_if_ne (tgt := 34) (pc' := 30) dX8_check_27 rfl rfl (fun h27 => ?_) (fun h27 => ?_)
    · refine P_aload0 (pc' := 35) dX8_check_34 rfl ?_
      refine P_getr (pc' := 38) dX8_check_35 rfl fl_X8_16 rfl (l_0 hsh) (t_0 hsh) (q_0_1 hsh) ?_
      refine P_aload0 (pc' := 39) dX8_check_38 rfl ?_
      refine P_getr (pc' := 42) dX8_check_39 rfl fl_X8_19 rfl (l_0 hsh) (t_0 hsh) (q_0_2 hsh) ?_
      refine P_callV1 (pc' := 45) dX8_check_42 rfl lk_X8_295 (l_8 hsh) (t_8 hsh) (c_X5_become (d := 3) hsh (Or.inr (Or.inl rfl)) (Or.inr (Or.inr rfl)) (by decide) (by rw [u2_a (by decide)]; exact e4) (by omega)) (by omega) (Nat.le_of_ble_eq_true rfl) (fun r S' I' hq => ?_)
      obtain ⟨rfl, rfl, hJ, hF⟩ := hq
      have hK3 : K S I' (u2 T 55 32 0) tn bn tx := hK1.th (fun x _ hx => hF x (by omega)) (by obtain ⟨al, ha⟩ := hK1.2.2.2.2.2.1; exact ⟨al, hF.al (Or.inr (Or.inl rfl)) ha⟩)
      rw [aC_out (o := 15) (fun x h1 h2 => u2_row (by omega)), e15] at hJ
      refine P_aload0 (pc' := 46) dX8_check_45 rfl ?_
      refine P_getr (pc' := 49) dX8_check_46 rfl fl_X8_47 rfl (l_0 hsh) (t_0 hsh) (q_0_7 hsh) ?_
      refine P_aload0 (pc' := 50) dX8_check_49 rfl ?_
      refine P_iconst (pc' := 51) dX8_check_50 rfl (v := 0) rfl ?_
      refine P_aload0 (pc' := 52) dX8_check_51 rfl ?_
      refine P_getr (pc' := 55) dX8_check_52 rfl fl_X8_19 rfl (l_0 hsh) (t_0 hsh) (q_0_2 hsh) ?_
      refine P_geti (pc' := 58) dX8_check_55 rfl fl_X8_117 rfl (l_15 hsh) (t_15 hsh) ?_
      refine P_as (show I' 15 13 = nI bn by rw [hF 15 (by omega), u2_a (by decide)]; exact e7) ?_
      refine P_callV2 (pc' := 61) dX8_check_58 rfl lk_X8_119 (l_0 hsh) (t_0 hsh) (c_X8_counting (d := 3) (k := 0) hsh hK3.2.2.2.2.1 (by decide) hbn (by omega)) (by omega) (Nat.le_of_ble_eq_true rfl) (fun r S' I' hq => ?_)
      obtain ⟨rfl, rfl, rfl⟩ := hq
      refine P_callV1 (pc' := 64) dX8_check_61 rfl lk_X8_123 (l_27 hsh) (t_27 hsh) (c_X0_follow (d := 1) (ctP S tx 0 bn) hsh (fun a e => hK3.fx a e hbn) hK3.fy (by omega)) (by omega) (Nat.le_of_ble_eq_true rfl) (fun r S2 I2 hq => ?_); obtain ⟨rfl, hS2, hI2⟩ := hq; obtain ⟨hK2, hal2, hf2⟩ := fol_all hK3 hbn hS2 hI2; have hsh2 := hK2.2.1
      refine P_iload1 (pc' := 65) dX8_check_64 rfl ?_
      refine P_sipush (pc' := 68) dX8_check_65 rfl (v := 9999) rfl ?_
      refine P_aload0 (pc' := 69) dX8_check_68 rfl ?_
      refine P_getr (pc' := 72) dX8_check_69 rfl fl_X8_19 rfl (l_0 hsh2) (t_0 hsh2) (q_0_2 hsh2) ?_
      refine P_geti (pc' := 75) dX8_check_72 rfl fl_X8_166 rfl (l_15 hsh2) (t_15 hsh2) ?_
      refine P_as (show I2 15 11 = nI g by rw [hf2 15 (by decide), hF 15 (by omega), u2_a (by decide)]; exact e2) ?_
      refine P_isub (pc' := 76) dX8_check_75 rfl ?_
      refine P_as (y := nI (9999 - g)) (pk_sub (a := 9999) (b := g) hg) ?_
      refine P_min (pc' := 79) dX8_check_76 rfl lk_X8_151 (by omega) (Nat.le_of_ble_eq_true rfl) ?_
      refine P_as (nI_min (a := j) (b := 9999 - g) (by omega) (by omega)) ?_
      refine P_istore3 (pc' := 80) dX8_check_79 rfl (by decide) rfl ?_
      refine P_iconst (pc' := 81) dX8_check_80 rfl (v := 0) rfl ?_
      refine P_istore4 (pc' := 83) dX8_check_81 rfl (by decide) rfl ?_
      exact lp_X8_check (f := T 76) (al := alX bn tx) hn hm (by omega) hd (fun k _ => u2_a (by decide)) (min j (9999 - g)) 0 (aB T) I2 (by omega) hw hK2 hal2 (by rw [aC_out (fun x h1 h2 => hf2 x (by omega)), hJ]) (fun x h1 h2 => by rw [hf2 x (by omega), hF x (by omega)]; exact hf1 x h1 h2) rfl
    · exact absurd h27 h3
  · exact absurd h17 hy
/-! whose corner purses are -/
def dfV (f : Nat → Int32) (b j : Nat) (A : Nat → Int32) : Nat := if f j = -1000000005 then 0 else ((A (19 + 5 * b)).toInt - (f j).toInt).natAbs
def dvF (al : Int32 → Int32 → Int32 → Int32) (n b : Nat) (f : Nat → Int32) : Nat → Nat → (Nat → Int32) → Nat
  | 0, _, _ => 0
  | k + 1, j, A => dfV f b j A + dvF al n b f k (j + 1) (aHour al n A)
theorem dvF_s (al : Int32 → Int32 → Int32 → Int32) (n b : Nat) (f : Nat → Int32) (k j : Nat) (A : Nat → Int32) : dvF al n b f (k + 1) j A = dfV f b j A + dvF al n b f k (j + 1) (aHour al n A) := rfl
theorem toI_inj {x : Int32} {n : Nat} (h : x.toInt = (n : Int)) (hn : n < 2 ^ 31) : x = nI n := Int32.toInt_inj.mp (by rw [h, nI_toInt hn])
theorem f_b {v : Int32} (h : -99999 ≤ v ∧ v ≤ 99999) : -99999 ≤ v.toInt ∧ v.toInt ≤ 99999 := by
  have e1 : (-99999 : Int32).toInt = -99999 := by decide
  have e2 : (99999 : Int32).toInt = 99999 := by decide
  have h1 := Int32.le_iff_toInt_le.mp h.1
  have h2 := Int32.le_iff_toInt_le.mp h.2
  rw [e1] at h1
  rw [e2] at h2
  exact ⟨h1, h2⟩
theorem abs_n {x y : Int32} (hx : -71000000 ≤ x.toInt ∧ x.toInt ≤ 71000000) (hy : -99999 ≤ y.toInt ∧ y.toInt ≤ 99999) : (if (0 : Int32) ≤ x - y then x - y else 0 - (x - y)) = nI (x.toInt - y.toInt).natAbs ∧ (x.toInt - y.toInt).natAbs ≤ 75000000 := by
  have e := i_subI (a := x) (b := y) (by omega) (by omega)
  have e0 : (0 : Int32).toInt = 0 := by decide
  refine ⟨?_, by omega⟩
  by_cases h : (0 : Int32) ≤ x - y
  · rw [if_pos h]
    have h1 := Int32.le_iff_toInt_le.mp h
    rw [e0, e] at h1
    exact toI_inj (by rw [e]; omega) (by omega)
  · rw [if_neg h]
    have h1 : ¬ (0 : Int32).toInt ≤ (x - y).toInt := fun z => h (Int32.le_iff_toInt_le.mpr z)
    rw [e0, e] at h1
    have e2 := i_subI (a := 0) (b := x - y) (by rw [e0, e]; omega) (by rw [e0, e]; omega)
    exact toI_inj (by rw [e2, e0, e]; omega) (by omega)
def prv (al : Int32 → Int32 → Int32 → Int32) (n j : Nat) (B : Nat → Int32) : Nat → Int32 := if j = 0 then B else aHour al n B
theorem lp_X8_differences {G : GX} {S : Shp} {I0 T : Mem} {d tn bn n b i m : Nat} {tx : Nat → Tx} {co : Int32} {R : Nat} {Q : Option Value → Shp → Mem → Prop} (hQ : ∀ I', K S I' T tn bn tx → R < 2 ^ 31 → (∀ x, 55 ≤ x → x < 77 → I' x = I0 x) → Q (some (.int (nI R))) S I') (hi : i < 4) (hm : m ≤ 24) (em : T 69 i = nI m) (hn : n ≤ 8) (hb : b < n) (hd : 9 ≤ d) : ∀ (k j acc : Nat) (A B : Nat → Int32) (I : Mem), j + k = m → acc ≤ 75000000 * j → WA B n → RR A → A = prv (alX tn tx) n j B → BM A (7000 * ((9999 + j : Nat) : Int)) → K S I T tn bn tx → AlOk S I (alX tn tx) → aC 8 I = B → (∀ x, 55 ≤ x → x < 77 → I x = I0 x) → acc + dvF (alX tn tx) n b (fun j => T 70 (24 * i + j)) k j A = R → PW G RX8 "differences" cX8_differences 6 (some .int) d 0 0 Q 20 [some (.ref 0), some (.ref (32 + 2 * i)), some (.int (nI b)), some (.int co), some (.int (nI acc)), some (.int (nI j))] [] S I := by
  intro k
  induction k with
  | zero =>
    intro j acc A B I hj ha hw hr eA hB hK hal h8 hf hR
    have hsh := hK.2.1
    obtain ⟨c1, c2, c3⟩ := hK.2.2.2.2.2.2.1 i hi
    have hw1 : I (32 + 2 * i) 1 = nI m := c2.trans em
    have hR : acc = R := hR
    subst hR
    refine P_iload5 (pc' := 22) dX8_differences_20 rfl ?_
    refine P_aload1 (pc' := 23) dX8_differences_22 rfl ?_
    refine P_geti (pc' := 26) dX8_differences_23 rfl fl_X8_255 rfl (sh_o hsh hi).1 (sh_o hsh hi).2.2.1 ?_
    refine P_as hw1 ?_
    refine P_icmp_ge (tgt := 85) (pc' := 29) dX8_differences_26 rfl rfl (fun h26 => ?_) (fun h26 => ?_)
    · refine P_iload4 (pc' := 87) dX8_differences_85 rfl ?_
      refine P_iret dX8_differences_87 ?_
      exact hQ I hK (by omega) hf
    · exact absurd (nI_le (by omega) (by omega)) h26
  | succ k ih =>
    intro j acc A B I hj ha hw hr eA hB hK hal h8 hf hR
    have hsh := hK.2.1
    obtain ⟨c1, c2, c3⟩ := hK.2.2.2.2.2.2.1 i hi
    have hw1 : I (32 + 2 * i) 1 = nI m := c2.trans em
    have s3 := (hK.1.2.2.2.2.1 i hi).2.2 j (by omega)
    have hwA : WA A n := by
      rw [eA]
      unfold prv
      split
      · exact hw
      · exact aHour_wa hw
    have hwA2 : WA (aHour (alX tn tx) n A) n := aHour_wa hwA
    rw [dvF_s] at hR
    have key : ∀ (I3 : Mem), K S I3 T tn bn tx → AlOk S I3 (alX tn tx) → aC 8 I3 = A → (∀ x, 55 ≤ x → x < 77 → I3 x = I0 x) → PW G RX8 "differences" cX8_differences 6 (some .int) d 0 0 Q 45 [some (.ref 0), some (.ref (32 + 2 * i)), some (.int (nI b)), some (.int co), some (.int (nI acc)), some (.int (nI j))] [] S I3 := by
      intro I3 hK3 hal3 h83 hf3
      obtain ⟨b1, b2, b3⟩ := hK3.2.2.2.2.2.2.1 i hi
      have hw3 : I3 (32 + 2 * i) 1 = nI m := b2.trans em
      have e3 : I3 (32 + 2 * i + 1) j = T 70 (24 * i + j) := by rw [show 32 + 2 * i + 1 = 33 + 2 * i by omega]; exact b3 j (by omega)
      have ep : I3 13 b = A (19 + 5 * b) := by rw [show I3 13 b = aC 8 I3 (19 + 5 * b) from aC_rp (o := 8) I3 (by omega), h83]
      have en : (if wi (nI j) 0 (nI m - 1) = 0 then (0 : Int32) else if I3 (32 + 2 * i + 1) (nI j).toNatClampNeg = -1000000005 then 0 else 1) = if T 70 (24 * i + j) = -1000000005 then 0 else 1 := by
        rw [wi_y (by omega) (by omega), if_neg (by decide), nI_clamp (by omega), e3]
      have nxt : ∀ acc' : Nat, acc' = acc + dfV (fun j => T 70 (24 * i + j)) b j A → acc' ≤ 75000000 * (j + 1) → PW G RX8 "differences" cX8_differences 6 (some .int) d 0 0 Q 20 [some (.ref 0), some (.ref (32 + 2 * i)), some (.int (nI b)), some (.int co), some (.int (nI acc')), some (.int (nI (j + 1)))] [] S I3 := by
        intro acc' e1 e2
        refine ih (j + 1) acc' (aHour (alX tn tx) n A) A I3 (by omega) e2 hwA (aHour_R hr) (by unfold prv; rw [if_neg (by omega)]) ((aHour_B (alX_n tn tx) (by omega) (by omega) hwA hr hB).le (by omega)) hK3 hal3 h83 hf3 ?_
        rw [e1, ← hR]
        omega
      by_cases q : T 70 (24 * i + j) = -1000000005
      · rw [if_pos q] at en
        refine P_aload1 (pc' := 46) dX8_differences_45 rfl ?_
        refine P_iload5 (pc' := 48) dX8_differences_46 rfl ?_
        refine P_callV1 (pc' := 51) dX8_differences_48 rfl lk_X8_256 (sh_o hsh hi).1 (sh_o hsh hi).2.2.1 (c_X3_isNumber (d := 2) (nI j) (sh_o hsh hi) hw3 hm (by omega)) (by omega) (Nat.le_of_ble_eq_true rfl) (fun r S' I' hq => ?_)
        obtain ⟨rfl, rfl, rfl⟩ := hq
        refine P_as en ?_
        refine P_if_eq (tgt := 79) (pc' := 54) dX8_differences_51 rfl rfl (fun h51 => ?_) (fun h51 => ?_)
        · refine P_iinc5 (pc' := 82) dX8_differences_79 rfl (nI_1 j) (by decide) rfl ?_
          refine P_goto (tgt := 20) dX8_differences_82 rfl ?_
          exact nxt acc (by rw [show dfV (fun j => T 70 (24 * i + j)) b j A = 0 from if_pos q]; rfl) (by omega)
        · exact absurd rfl h51
      · rw [if_neg q] at en
        have fb := f_b (s3.resolve_left q)
        have hbb := hB b (by omega)
        obtain ⟨ab1, ab2⟩ := abs_n (x := A (19 + 5 * b)) (y := T 70 (24 * i + j)) (by omega) fb
        refine P_aload1 (pc' := 46) dX8_differences_45 rfl ?_
        refine P_iload5 (pc' := 48) dX8_differences_46 rfl ?_
        refine P_callV1 (pc' := 51) dX8_differences_48 rfl lk_X8_256 (sh_o hsh hi).1 (sh_o hsh hi).2.2.1 (c_X3_isNumber (d := 2) (nI j) (sh_o hsh hi) hw3 hm (by omega)) (by omega) (Nat.le_of_ble_eq_true rfl) (fun r S' I' hq => ?_)
        obtain ⟨rfl, rfl, rfl⟩ := hq
        refine P_as en ?_
        refine P_if_eq (tgt := 79) (pc' := 54) dX8_differences_51 rfl rfl (fun h51 => ?_) (fun h51 => ?_)
        · exact absurd h51 (by decide)
        · refine P_iload4 (pc' := 56) dX8_differences_54 rfl ?_
          refine P_aload0 (pc' := 57) dX8_differences_56 rfl ?_
          refine P_getr (pc' := 60) dX8_differences_57 rfl fl_X8_16 rfl (l_0 hsh) (t_0 hsh) (q_0_1 hsh) ?_
          refine P_getr (pc' := 63) dX8_differences_60 rfl fl_X8_102 rfl (l_8 hsh) (t_8 hsh) (q_8_4 hsh) ?_
          refine P_iload2 (pc' := 64) dX8_differences_63 rfl ?_
          refine P_iald (pc' := 65) dX8_differences_64 rfl (l_13 hsh) (t_13 hsh) (j := b) rfl (by omega) (by decide) ?_
          refine P_as ep ?_
          refine P_aload1 (pc' := 66) dX8_differences_65 rfl ?_
          refine P_getr (pc' := 69) dX8_differences_66 rfl fl_X8_252 rfl (sh_o hsh hi).1 (sh_o hsh hi).2.2.1 (sh_o hsh hi).2.2.2.2 ?_
          refine P_iload5 (pc' := 71) dX8_differences_69 rfl ?_
          refine P_iald (pc' := 72) dX8_differences_71 rfl (sh_o hsh hi).2.1 (sh_o hsh hi).2.2.2.1 (j := j) rfl (by omega) (by decide) ?_
          refine P_as e3 ?_
          refine P_isub (pc' := 73) dX8_differences_72 rfl ?_
          refine P_abs (pc' := 76) dX8_differences_73 rfl lk_X8_305 (by omega) (Nat.le_of_ble_eq_true rfl) ?_
          refine P_as ab1 ?_
          refine P_iadd (pc' := 77) dX8_differences_76 rfl ?_
          refine P_as (nI_add _ _) ?_
          refine P_istore4 (pc' := 79) dX8_differences_77 rfl (by decide) rfl ?_
          refine P_iinc5 (pc' := 82) dX8_differences_79 rfl (nI_1 j) (by decide) rfl ?_
          refine P_goto (tgt := 20) dX8_differences_82 rfl ?_
          exact nxt _ (by rw [show dfV (fun j => T 70 (24 * i + j)) b j A = ((A (19 + 5 * b)).toInt - (T 70 (24 * i + j)).toInt).natAbs from if_neg q]) (by omega)
    refine P_iload5 (pc' := 22) dX8_differences_20 rfl ?_
    refine P_aload1 (pc' := 23) dX8_differences_22 rfl ?_
    refine P_geti (pc' := 26) dX8_differences_23 rfl fl_X8_255 rfl (sh_o hsh hi).1 (sh_o hsh hi).2.2.1 ?_
    refine P_as hw1 ?_
    refine P_icmp_ge (tgt := 85) (pc' := 29) dX8_differences_26 rfl rfl (fun h26 => ?_) (fun h26 => ?_)
    · exact absurd h26 (nI_ge (by omega) (by omega))
    · refine P_iload5 (pc' := 31) dX8_differences_29 rfl ?_
      refine P_if_le (tgt := 45) (pc' := 34) dX8_differences_31 rfl rfl (fun h31 => ?_) (fun h31 => ?_)
      · first
          | (have j0 : j = 0 := by
               have := (nI_leI (a := j) (b := 0) (by omega) (by decide)).mp h31
               omega
             exact key I hK hal (by rw [h8, eA]; unfold prv; rw [if_pos j0]) hf)
          | (have j0 : j ≠ 0 := fun z => h31 (by rw [z]; decide)
             exact key I3 (hK.p8 hP) hP.2.1 (by rw [hP.1, eA]; unfold prv; rw [if_neg j0]) (fun x h1 h2 => by rw [hP.2.2 x (by unfold Scr; omega) (by omega)]; exact hf x h1 h2))
      · refine P_aload0 (pc' := 35) dX8_differences_34 rfl ?_
        refine P_getr (pc' := 38) dX8_differences_35 rfl fl_X8_16 rfl (l_0 hsh) (t_0 hsh) (q_0_1 hsh) ?_
        refine P_aload0 (pc' := 39) dX8_differences_38 rfl ?_
        refine P_getr (pc' := 42) dX8_differences_39 rfl fl_X8_47 rfl (l_0 hsh) (t_0 hsh) (q_0_7 hsh) ?_
        refine P_callV1 (pc' := 45) dX8_differences_42 rfl lk_X8_298 (l_8 hsh) (t_8 hsh) (c_X5_passHour (d := 6) (n := n) hsh (Or.inr (Or.inl rfl)) hal (by rw [h8]; exact hw) (by omega)) (by omega) (Nat.le_of_ble_eq_true rfl) (fun r S3 I3 hq => ?_)
        obtain ⟨rfl, rfl, hP⟩ := hq
        rw [h8] at hP
        first
          | (have j0 : j = 0 := by
               have := (nI_leI (a := j) (b := 0) (by omega) (by decide)).mp h31
               omega
             exact key I hK hal (by rw [h8, eA]; unfold prv; rw [if_pos j0]) hf)
          | (have j0 : j ≠ 0 := fun z => h31 (by rw [z]; decide)
             exact key I3 (hK.p8 hP) hP.2.1 (by rw [hP.1, eA]; unfold prv; rw [if_neg j0]) (fun x h1 h2 => by rw [hP.2.2 x (by unfold Scr; omega) (by omega)]; exact hf x h1 h2))
theorem c_X8_differences {G : GX} {S : Shp} {I T : Mem} {d tn bn n b i m c : Nat} {tx : Nat → Tx} (hK : K S I T tn bn tx) (hw : WA (aR T) n) (hi : i < 4) (hm : m ≤ 24) (em : T 69 i = nI m) (hn : n ≤ 8) (hb : b < n) (hc : c ≤ 8) (hd : 9 ≤ d) : PM G yX8_differences cX8_differences 6 (some .int) d 0 0 [.ref 0, .ref (32 + 2 * i), .int (nI b), .int (nI c)] S I (fun r S' I' => r = some (.int (nI (dvF (alX tn tx) n b (fun j => T 70 (24 * i + j)) m 0 (upd (aR T) (17 + 5 * b) (nI c))))) ∧ K S' I' T tn bn tx ∧ dvF (alX tn tx) n b (fun j => T 70 (24 * i + j)) m 0 (upd (aR T) (17 + 5 * b) (nI c)) < 2 ^ 31 ∧ ∀ x, 55 ≤ x → x < 77 → I' x = I x) := by
  have hsh := hK.2.1
  have hw2 : WA (upd (aR T) (17 + 5 * b) (nI c)) n := hw.wc (by omega) hc
  obtain ⟨-, ⟨g, hg, eg, hB⟩, hr⟩ := hK.1.1
  refine PM.of (ls := [some (.ref 0), some (.ref (32 + 2 * i)), some (.int (nI b)), some (.int (nI c)), none, none]) (by decide) rfl (Nat.le_of_ble_eq_true rfl) rfl ?_
  show PW G RX8 "differences" _ _ _ _ _ _ _ _ _ _ _ _
  refine P_aload0 (pc' := 1) dX8_differences_0 rfl ?_
  refine P_callV0 (pc' := 4) dX8_differences_1 rfl lk_X8_185 (l_0 hsh) (t_0 hsh) (c_X8_think (d := 6) hK (by omega)) (by omega) (Nat.le_of_ble_eq_true rfl) (fun r S2 I2 hq => ?_)
  obtain ⟨rfl, hK2, hal2, h8, hf2⟩ := hq
  have hsh2 := hK2.2.1
  refine P_aload0 (pc' := 5) dX8_differences_4 rfl ?_
  refine P_getr (pc' := 8) dX8_differences_5 rfl fl_X8_16 rfl (l_0 hsh2) (t_0 hsh2) (q_0_1 hsh2) ?_
  refine P_getr (pc' := 11) dX8_differences_8 rfl fl_X8_96 rfl (l_8 hsh2) (t_8 hsh2) (q_8_2 hsh2) ?_
  refine P_iload2 (pc' := 12) dX8_differences_11 rfl ?_
  refine P_iload3 (pc' := 13) dX8_differences_12 rfl ?_
  refine P_iast (pc' := 14) dX8_differences_13 rfl (l_11 hsh2) (t_11 hsh2) (j := b) rfl (by omega) (by decide) ?_
  refine P_iconst (pc' := 15) dX8_differences_14 rfl (v := 0) rfl ?_
  refine P_istore4 (pc' := 17) dX8_differences_15 rfl (by decide) rfl ?_
  refine P_iconst (pc' := 18) dX8_differences_17 rfl (v := 0) rfl ?_
  refine P_istore5 (pc' := 20) dX8_differences_18 rfl (by decide) rfl ?_
  have hPp : Pst 8 S2 I2 (alX tn tx) (upd (aR T) (17 + 5 * b) (nI c)) (u2 I2 11 b (nI c)) := Pst.put (Or.inr (Or.inl rfl)) hal2 (by decide) (by decide) (by rw [← h8]; exact aC_wc (o := 8) (by omega) (nI c))
  exact lp_X8_differences (I0 := I) (fun I' q3 q4 q5 => ⟨rfl, q3, q4, q5⟩) hi hm em hn hb hd m 0 0 (upd (aR T) (17 + 5 * b) (nI c)) _ _ (by omega) (by omega) hw2 (RR.up hr (fun c _ => by omega)) (by unfold prv; rw [if_pos rfl]) (BM.up (BM.le hB (by omega)) (fun b => by omega)) (hK2.p8 hPp) hPp.2.1 hPp.1 (fun x h1 h2 => by rw [hPp.2.2 x (by unfold Scr; omega) (by omega)]; exact hf2 x h1 h2) (Nat.zero_add _)
def smS (f : Nat → Nat) : Nat → Nat → Nat × Nat → Nat × Nat
  | 0, _, q => q
  | k + 1, c, q => smS f k (c + 1) (if f c < q.2 then (c, f c) else q)
theorem smS_s (f : Nat → Nat) (k c : Nat) (q : Nat × Nat) : smS f (k + 1) c q = smS f k (c + 1) (if f c < q.2 then (c, f c) else q) := rfl
def vSto (T : Mem) (tn : Nat) (tx : Nat → Tx) (s b y : Int32) : Int32 := if wi s 0 3 = 0 then -1000000001 else if wi b 0 (aR T 1 - 1) = 0 then -1000000001 else if wi y 0 1 = 0 then -1000000001 else if T 68 s.toNatClampNeg = -1 then -1000000011 else if y = 0 then nI (smS (fun c => dvF (alX tn tx) (aR T 1).toNatClampNeg b.toNatClampNeg (fun j => T 70 (24 * s.toNatClampNeg + j)) (T 69 s.toNatClampNeg).toNatClampNeg 0 (upd (aR T) (17 + 5 * b.toNatClampNeg) (nI c))) 8 1 (0, dvF (alX tn tx) (aR T 1).toNatClampNeg b.toNatClampNeg (fun j => T 70 (24 * s.toNatClampNeg + j)) (T 69 s.toNatClampNeg).toNatClampNeg 0 (upd (aR T) (17 + 5 * b.toNatClampNeg) (nI 0)))).1 else nI (smS (fun c => dvF (alX tn tx) (aR T 1).toNatClampNeg b.toNatClampNeg (fun j => T 70 (24 * s.toNatClampNeg + j)) (T 69 s.toNatClampNeg).toNatClampNeg 0 (upd (aR T) (17 + 5 * b.toNatClampNeg) (nI c))) 8 1 (0, dvF (alX tn tx) (aR T 1).toNatClampNeg b.toNatClampNeg (fun j => T 70 (24 * s.toNatClampNeg + j)) (T 69 s.toNatClampNeg).toNatClampNeg 0 (upd (aR T) (17 + 5 * b.toNatClampNeg) (nI 0)))).2
theorem lp_X8_stood {G : GX} {I0 T : Mem} {d tn bn n b i m : Nat} {tx : Nat → Tx} {y : Int32} {F : Nat → Nat} {R : Nat × Nat} (hw : WA (aR T) n) (hi : i < 4) (hm : m ≤ 24) (em : T 69 i = nI m) (hn : n ≤ 8) (hb : b < n) (hd : 12 ≤ d) (hF : ∀ c, dvF (alX tn tx) n b (fun j => T 70 (24 * i + j)) m 0 (upd (aR T) (17 + 5 * b) (nI c)) = F c) : ∀ (k c : Nat) (S : Shp) (I : Mem) (q : Nat × Nat) (x7 : Option Value), 1 ≤ c → c + k = 9 → K S I T tn bn tx → (∀ x, 55 ≤ x → x < 77 → I x = I0 x) → q.2 < 2 ^ 31 → smS F k c q = R → PW G RX8 "stood" cX8_stood 8 (some .int) d 0 0 (CO I0 T tn bn tx (if y = 0 then nI R.1 else nI R.2)) 51 [some (.ref 0), some (.int (nI i)), some (.int (nI b)), some (.int y), some (.int (nI q.1)), some (.int (nI q.2)), some (.int (nI c)), x7] [] S I := by
  intro k
  induction k with
  | zero =>
    intro c S I q x7 c1 hc hK hf hq hR
    have hsh := hK.2.1
    have hc : c = 9 := by omega
    subst hc
    have hR : q = R := hR
    rw [← hR]
    refine P_iload6 (pc' := 53) dX8_stood_51 rfl ?_
    refine P_bipush (pc' := 55) dX8_stood_53 rfl (v := 8) rfl ?_
    refine P_icmp_gt (tgt := 99) (pc' := 58) dX8_stood_55 rfl rfl (fun h55 => ?_) (fun h55 => ?_)
    · refine P_iload3 (pc' := 100) dX8_stood_99 rfl ?_
      refine P_if_ne (tgt := 108) (pc' := 103) dX8_stood_100 rfl rfl (fun h100 => ?_) (fun h100 => ?_)
      · refine P_iload5 (pc' := 110) dX8_stood_108 rfl ?_
        refine P_iret dX8_stood_110 ?_
        first
          | (rw [if_pos h100]; exact ⟨rfl, hK, hf⟩)
          | (rw [if_neg h100]; exact ⟨rfl, hK, hf⟩)
      · refine P_iload4 (pc' := 105) dX8_stood_103 rfl ?_
        refine P_goto (tgt := 110) dX8_stood_105 rfl ?_
        refine P_iret dX8_stood_110 ?_
        first
          | (rw [if_pos h100]; exact ⟨rfl, hK, hf⟩)
          | (rw [if_neg h100]; exact ⟨rfl, hK, hf⟩)
    · exact absurd (show (8 : Int32) < nI 9 by decide) h55
  | succ k ih =>
    intro c S I q x7 c1 hc hK hf hq hR
    have hsh := hK.2.1
    rw [smS_s] at hR
    refine P_iload6 (pc' := 53) dX8_stood_51 rfl ?_
    refine P_bipush (pc' := 55) dX8_stood_53 rfl (v := 8) rfl ?_
    refine P_icmp_gt (tgt := 99) (pc' := 58) dX8_stood_55 rfl rfl (fun h55 => ?_) (fun h55 => ?_)
    · exact absurd h55 (Int32.not_lt.mpr (nI_le (a := c) (b := 8) (by omega) (by decide)))
    · refine P_aload0 (pc' := 59) dX8_stood_58 rfl ?_
      refine P_aload0 (pc' := 60) dX8_stood_59 rfl ?_
      refine P_getr (pc' := 63) dX8_stood_60 rfl fl_X8_53 rfl (l_0 hsh) (t_0 hsh) (q_0_8 hsh) ?_
      refine P_iload1 (pc' := 64) dX8_stood_63 rfl ?_
      refine P_aald13 (pc' := 65) dX8_stood_64 rfl (l_29 hsh) (t_29 hsh) (j := i) rfl (by omega) (by decide) (sh_q hsh hi) ?_
      refine P_iload2 (pc' := 66) dX8_stood_65 rfl ?_
      refine P_iload6 (pc' := 68) dX8_stood_66 rfl ?_
      refine P_callV3 (pc' := 71) dX8_stood_68 rfl lk_X8_210 (l_0 hsh) (t_0 hsh) (c_X8_differences (d := 9) hK hw hi hm em hn hb (by omega) (by omega)) (by omega) (Nat.le_of_ble_eq_true rfl) (fun r S2 I2 hq => ?_)
      obtain ⟨rfl, hK2, hlt, hf2⟩ := hq
      rw [hF c] at hlt ⊢
      refine P_istore7 (pc' := 73) dX8_stood_71 rfl (by decide) rfl ?_
      refine P_iload6 (pc' := 75) dX8_stood_73 rfl ?_
      refine P_if_eq (tgt := 85) (pc' := 78) dX8_stood_75 rfl rfl (fun h75 => ?_) (fun h75 => ?_)
      · exact absurd h75 (nI_ne0 (by omega) (by omega))
      · refine P_iload7 (pc' := 80) dX8_stood_78 rfl ?_
        refine P_iload5 (pc' := 82) dX8_stood_80 rfl ?_
        refine P_icmp_ge (tgt := 93) (pc' := 85) dX8_stood_82 rfl rfl (fun h82 => ?_) (fun h82 => ?_)
        · refine P_iinc6 (pc' := 96) dX8_stood_93 rfl (nI_1 c) (by decide) rfl ?_
          refine P_goto (tgt := 51) dX8_stood_96 rfl ?_
          first
            | (rw [if_neg (fun z => absurd (nI_lt z (by omega)) (Int32.not_lt.mpr h82))] at hR
               exact ih (c + 1) _ I2 q _ (by omega) (by omega) hK2 (fun x h1 h2 => by rw [hf2 x h1 h2]; exact hf x h1 h2) hq hR)
            | (rw [if_pos (g0 h82 (by omega) (by omega))] at hR
               exact ih (c + 1) _ I2 (c, F c) _ (by omega) (by omega) hK2 (fun x h1 h2 => by rw [hf2 x h1 h2]; exact hf x h1 h2) hlt hR)
        · refine P_iload6 (pc' := 87) dX8_stood_85 rfl ?_
          refine P_istore4 (pc' := 89) dX8_stood_87 rfl (by decide) rfl ?_
          refine P_iload7 (pc' := 91) dX8_stood_89 rfl ?_
          refine P_istore5 (pc' := 93) dX8_stood_91 rfl (by decide) rfl ?_
          refine P_iinc6 (pc' := 96) dX8_stood_93 rfl (nI_1 c) (by decide) rfl ?_
          refine P_goto (tgt := 51) dX8_stood_96 rfl ?_
          first
            | (rw [if_neg (fun z => absurd (nI_lt z (by omega)) (Int32.not_lt.mpr h82))] at hR
               exact ih (c + 1) _ I2 q _ (by omega) (by omega) hK2 (fun x h1 h2 => by rw [hf2 x h1 h2]; exact hf x h1 h2) hq hR)
            | (rw [if_pos (g0 h82 (by omega) (by omega))] at hR
               exact ih (c + 1) _ I2 (c, F c) _ (by omega) (by omega) hK2 (fun x h1 h2 => by rw [hf2 x h1 h2]; exact hf x h1 h2) hlt hR)
theorem x_stood {G : GX} {S : Shp} {I T : Mem} {d tn bn : Nat} {tx : Nat → Tx} (hK : K S I T tn bn tx) (s b y : Int32) (hd : 12 ≤ d) : PM G yX8_stood cX8_stood 8 (some .int) d 0 0 [.ref 0, .int s, .int b, .int y] S I (CO I T tn bn tx (vSto T tn tx s b y)) := by
  obtain ⟨n, hn, hw, hA, hz, ht⟩ := hK.n
  have hsh := hK.2.1
  refine PM.of (ls := [some (.ref 0), some (.int s), some (.int b), some (.int y), none, none, none, none]) (by decide) rfl (Nat.le_of_ble_eq_true rfl) rfl ?_
  show PW G RX8 "stood" _ _ _ _ _ _ _ _ _ _ _ _
  by_cases hs : wi s 0 3 = 0
  · rw [show vSto T tn tx s b y = -1000000001 from if_pos hs]
    refine P_iload1 (pc' := 1) dX8_stood_0 rfl ?_
    refine P_callS1 (pc' := 4) dX8_stood_1 rfl lk_X8_203 (c_X8_isSheet (d := 1) s (by omega)) (by omega) (Nat.le_of_ble_eq_true rfl) (fun r S' I' hq => ?_)
    obtain ⟨rfl, rfl, rfl⟩ := hq
    refine P_if_eq (tgt := 24) (pc' := 7) dX8_stood_4 rfl rfl (fun h4 => ?_) (fun h4 => ?_)
    · refine P_ldc (pc' := 26) dX8_stood_24 rfl co_X8_81 ?_
      refine P_iret dX8_stood_26 ?_
      exact CO.id hK
    · exact absurd hs h4
  by_cases hb : wi b 0 (nI n - 1) = 0
  · rw [show vSto T tn tx s b y = -1000000001 from (if_neg hs).trans (if_pos (by rw [hw.1]; exact hb))]
    refine P_iload1 (pc' := 1) dX8_stood_0 rfl ?_
    refine P_callS1 (pc' := 4) dX8_stood_1 rfl lk_X8_203 (c_X8_isSheet (d := 1) s (by omega)) (by omega) (Nat.le_of_ble_eq_true rfl) (fun r S' I' hq => ?_)
    obtain ⟨rfl, rfl, rfl⟩ := hq
    refine P_if_eq (tgt := 24) (pc' := 7) dX8_stood_4 rfl rfl (fun h4 => ?_) (fun h4 => ?_)
    · exact absurd h4 hs
    · refine P_aload0 (pc' := 8) dX8_stood_7 rfl ?_
      refine P_iload2 (pc' := 9) dX8_stood_8 rfl ?_
      refine P_callV1 (pc' := 12) dX8_stood_9 rfl lk_X8_90 (l_0 hsh) (t_0 hsh) (c_X8_isBeggar (d := 1) b hsh hz (by omega)) (by omega) (Nat.le_of_ble_eq_true rfl) (fun r S' I' hq => ?_)
      obtain ⟨rfl, rfl, rfl⟩ := hq
      refine P_if_eq (tgt := 24) (pc' := 15) dX8_stood_12 rfl rfl (fun h12 => ?_) (fun h12 => ?_)
      · refine P_ldc (pc' := 26) dX8_stood_24 rfl co_X8_81 ?_
        refine P_iret dX8_stood_26 ?_
        exact CO.id hK
      · exact absurd hb h12
  by_cases hy : wi y 0 1 = 0
  · rw [show vSto T tn tx s b y = -1000000001 from (if_neg hs).trans ((if_neg (by rw [hw.1]; exact hb)).trans (if_pos hy))]
    refine P_iload1 (pc' := 1) dX8_stood_0 rfl ?_
    refine P_callS1 (pc' := 4) dX8_stood_1 rfl lk_X8_203 (c_X8_isSheet (d := 1) s (by omega)) (by omega) (Nat.le_of_ble_eq_true rfl) (fun r S' I' hq => ?_)
    obtain ⟨rfl, rfl, rfl⟩ := hq
    refine P_if_eq (tgt := 24) (pc' := 7) dX8_stood_4 rfl rfl (fun h4 => ?_) (fun h4 => ?_)
    · exact absurd h4 hs
    · refine P_aload0 (pc' := 8) dX8_stood_7 rfl ?_
      refine P_iload2 (pc' := 9) dX8_stood_8 rfl ?_
      refine P_callV1 (pc' := 12) dX8_stood_9 rfl lk_X8_90 (l_0 hsh) (t_0 hsh) (c_X8_isBeggar (d := 1) b hsh hz (by omega)) (by omega) (Nat.le_of_ble_eq_true rfl) (fun r S' I' hq => ?_)
      obtain ⟨rfl, rfl, rfl⟩ := hq
      refine P_if_eq (tgt := 24) (pc' := 15) dX8_stood_12 rfl rfl (fun h12 => ?_) (fun h12 => ?_)
      · exact absurd h12 hb
      · refine P_iload3 (pc' := 16) dX8_stood_15 rfl ?_
        refine P_iconst (pc' := 17) dX8_stood_16 rfl (v := 0) rfl ?_
        refine P_iconst (pc' := 18) dX8_stood_17 rfl (v := 1) rfl ?_
        refine P_callS3 (pc' := 21) dX8_stood_18 rfl lk_X8_77 (c_X8_wi (d := 0) y 0 1) (by omega) (Nat.le_of_ble_eq_true rfl) (fun r S' I' hq => ?_)
        obtain ⟨rfl, rfl, rfl⟩ := hq
        refine P_if_ne (tgt := 27) (pc' := 24) dX8_stood_21 rfl rfl (fun h21 => ?_) (fun h21 => ?_)
        · exact absurd hy h21
        · refine P_ldc (pc' := 26) dX8_stood_24 rfl co_X8_81 ?_
          refine P_iret dX8_stood_26 ?_
          exact CO.id hK
  obtain ⟨i, hi, rfl⟩ := wi_b (m := 3) (by decide) hs
  obtain ⟨j, hj, rfl⟩ := wi_n (by omega) hb
  obtain ⟨s1, ⟨m, hm, s2⟩, s3⟩ := hK.1.2.2.2.2.1 i (by omega)
  obtain ⟨c1, c2, c3⟩ := hK.2.2.2.2.2.2.1 i (by omega)
  have ev : vSto T tn tx (nI i) (nI j) y = if T 68 i = -1 then -1000000011 else if y = 0 then nI (smS (fun c => dvF (alX tn tx) n j (fun j => T 70 (24 * i + j)) m 0 (upd (aR T) (17 + 5 * j) (nI c))) 8 1 (0, dvF (alX tn tx) n j (fun j => T 70 (24 * i + j)) m 0 (upd (aR T) (17 + 5 * j) (nI 0)))).1 else nI (smS (fun c => dvF (alX tn tx) n j (fun j => T 70 (24 * i + j)) m 0 (upd (aR T) (17 + 5 * j) (nI c))) 8 1 (0, dvF (alX tn tx) n j (fun j => T 70 (24 * i + j)) m 0 (upd (aR T) (17 + 5 * j) (nI 0)))).2 := by unfold vSto; rw [if_neg hs, hw.1, if_neg hb, if_neg hy, nI_clamp (by omega), nI_clamp (by omega), nI_clamp (by omega), s2, nI_clamp (by omega)]
  rw [ev]
  generalize hF : (fun c => dvF (alX tn tx) n j (fun j => T 70 (24 * i + j)) m 0 (upd (aR T) (17 + 5 * j) (nI c))) = F
  have hF2 : ∀ c, dvF (alX tn tx) n j (fun j => T 70 (24 * i + j)) m 0 (upd (aR T) (17 + 5 * j) (nI c)) = F c := fun c => by rw [← hF]
  rw [hF2 0]
  have key : ¬ T 68 i = -1 → ∀ x7, PW G RX8 "stood" cX8_stood 8 (some .int) d 0 0 (CO I T tn bn tx (if T 68 i = -1 then -1000000011 else if y = 0 then nI (smS F 8 1 (0, F 0)).1 else nI (smS F 8 1 (0, F 0)).2)) 51 [some (.ref 0), some (.int (nI i)), some (.int (nI j)), some (.int y), some (.int 0), some (.int 0), some (.int 0), x7] [] S I := by
    intro q x7
    rw [if_neg q]
    refine P_iload6 (pc' := 53) dX8_stood_51 rfl ?_
    refine P_bipush (pc' := 55) dX8_stood_53 rfl (v := 8) rfl ?_
    refine P_icmp_gt (tgt := 99) (pc' := 58) dX8_stood_55 rfl rfl (fun h55 => ?_) (fun h55 => ?_)
    · exact absurd h55 (by decide)
    · refine P_aload0 (pc' := 59) dX8_stood_58 rfl ?_
      refine P_aload0 (pc' := 60) dX8_stood_59 rfl ?_
      refine P_getr (pc' := 63) dX8_stood_60 rfl fl_X8_53 rfl (l_0 hsh) (t_0 hsh) (q_0_8 hsh) ?_
      refine P_iload1 (pc' := 64) dX8_stood_63 rfl ?_
      refine P_aald13 (pc' := 65) dX8_stood_64 rfl (l_29 hsh) (t_29 hsh) (j := i) rfl (by omega) (by decide) (sh_q hsh (by omega)) ?_
      refine P_iload2 (pc' := 66) dX8_stood_65 rfl ?_
      refine P_iload6 (pc' := 68) dX8_stood_66 rfl ?_
      refine P_callV3 (pc' := 71) dX8_stood_68 rfl lk_X8_210 (l_0 hsh) (t_0 hsh) (c_X8_differences (d := 9) (c := 0) hK hw (by omega) hm s2 hn hj (by omega) (by omega)) (by omega) (Nat.le_of_ble_eq_true rfl) (fun r S2 I2 hq => ?_)
      obtain ⟨rfl, hK2, hlt, hf2⟩ := hq
      rw [hF2 0] at hlt ⊢
      refine P_istore7 (pc' := 73) dX8_stood_71 rfl (by decide) rfl ?_
      refine P_iload6 (pc' := 75) dX8_stood_73 rfl ?_
      refine P_if_eq (tgt := 85) (pc' := 78) dX8_stood_75 rfl rfl (fun h75 => ?_) (fun h75 => ?_)
      · refine P_iload6 (pc' := 87) dX8_stood_85 rfl ?_
        refine P_istore4 (pc' := 89) dX8_stood_87 rfl (by decide) rfl ?_
        refine P_iload7 (pc' := 91) dX8_stood_89 rfl ?_
        refine P_istore5 (pc' := 93) dX8_stood_91 rfl (by decide) rfl ?_
        refine P_iinc6 (pc' := 96) dX8_stood_93 rfl (v := nI 1) rfl (by decide) rfl ?_
        refine P_goto (tgt := 51) dX8_stood_96 rfl ?_
        exact lp_X8_stood hw (by omega) hm s2 hn hj hd hF2 8 1 _ I2 (0, F 0) _ (by decide) (by decide) hK2 hf2 hlt rfl
      · exact absurd rfl h75
  refine P_iload1 (pc' := 1) dX8_stood_0 rfl ?_
  refine P_callS1 (pc' := 4) dX8_stood_1 rfl lk_X8_203 (c_X8_isSheet (d := 1) _ (by omega)) (by omega) (Nat.le_of_ble_eq_true rfl) (fun r S' I' hq => ?_)
  obtain ⟨rfl, rfl, rfl⟩ := hq
  refine P_if_eq (tgt := 24) (pc' := 7) dX8_stood_4 rfl rfl (fun h4 => ?_) (fun h4 => ?_)
  · exact absurd h4 hs
  · refine P_aload0 (pc' := 8) dX8_stood_7 rfl ?_
    refine P_iload2 (pc' := 9) dX8_stood_8 rfl ?_
    refine P_callV1 (pc' := 12) dX8_stood_9 rfl lk_X8_90 (l_0 hsh) (t_0 hsh) (c_X8_isBeggar (d := 1) _ hsh hz (by omega)) (by omega) (Nat.le_of_ble_eq_true rfl) (fun r S' I' hq => ?_)
    obtain ⟨rfl, rfl, rfl⟩ := hq
    refine P_if_eq (tgt := 24) (pc' := 15) dX8_stood_12 rfl rfl (fun h12 => ?_) (fun h12 => ?_)
    · exact absurd h12 hb
    · refine P_iload3 (pc' := 16) dX8_stood_15 rfl ?_
      refine P_iconst (pc' := 17) dX8_stood_16 rfl (v := 0) rfl ?_
      refine P_iconst (pc' := 18) dX8_stood_17 rfl (v := 1) rfl ?_
      refine P_callS3 (pc' := 21) dX8_stood_18 rfl lk_X8_77 (c_X8_wi (d := 0) y 0 1) (by omega) (Nat.le_of_ble_eq_true rfl) (fun r S' I' hq => ?_)
      obtain ⟨rfl, rfl, rfl⟩ := hq
      refine P_if_ne (tgt := 27) (pc' := 24) dX8_stood_21 rfl rfl (fun h21 => ?_) (fun h21 => ?_)
      · refine P_aload0 (pc' := 28) dX8_stood_27 rfl ?_
        refine P_getr (pc' := 31) dX8_stood_28 rfl fl_X8_53 rfl (l_0 hsh) (t_0 hsh) (q_0_8 hsh) ?_
        refine P_iload1 (pc' := 32) dX8_stood_31 rfl ?_
        refine P_aald13 (pc' := 33) dX8_stood_32 rfl (l_29 hsh) (t_29 hsh) (j := i) rfl (by omega) (by decide) (sh_q hsh (by omega)) ?_
        refine P_callV0 (pc' := 36) dX8_stood_33 rfl lk_X8_206 (sh_o hsh (show i < 4 by omega)).1 (sh_o hsh (show i < 4 by omega)).2.2.1 (c_X3_isMissing (d := 2) (sh_o hsh (by omega))) (by omega) (Nat.le_of_ble_eq_true rfl) (fun r S' I' hq => ?_)
        obtain ⟨rfl, rfl, rfl⟩ := hq
        rw [c1]
        refine P_if_eq (tgt := 42) (pc' := 39) dX8_stood_36 rfl rfl (fun h36 => ?_) (fun h36 => ?_)
        · refine P_iconst (pc' := 43) dX8_stood_42 rfl (v := 0) rfl ?_
          refine P_istore4 (pc' := 45) dX8_stood_43 rfl (by decide) rfl ?_
          refine P_iconst (pc' := 46) dX8_stood_45 rfl (v := 0) rfl ?_
          refine P_istore5 (pc' := 48) dX8_stood_46 rfl (by decide) rfl ?_
          refine P_iconst (pc' := 49) dX8_stood_48 rfl (v := 0) rfl ?_
          refine P_istore6 (pc' := 51) dX8_stood_49 rfl (by decide) rfl ?_
          exact key (fun z => by rw [if_pos z] at h36; exact absurd h36 (by decide)) _
        · refine P_ldc (pc' := 41) dX8_stood_39 rfl co_X8_209 ?_
          refine P_iret dX8_stood_41 ?_
          have q : T 68 i = -1 := Classical.byContradiction (fun z => h36 (if_neg z))
          rw [if_pos q]
          exact CO.id hK
      · exact absurd h21 hy

