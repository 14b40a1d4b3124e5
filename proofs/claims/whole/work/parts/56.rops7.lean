/-! rows that are checked, in the reference -/
def CK (I0 : Mem) (bn : Nat) (tx : Nat → Tx) (A : Nat → Int32) (M : Mem) : Prop := aR M = A ∧ RT M bn tx ∧ (∀ i, i < 1433 → M 58 i = I0 56 i) ∧ ∀ x, x ≠ 56 → x ≠ 58 → x ≠ 66 → x ≠ 67 → M x = I0 x
theorem CK.ps {I0 M J : Mem} {bn : Nat} {tx : Nat → Tx} {A B : Nat → Int32} (h : CK I0 bn tx A M) (hp : PsR M B J) (h7 : B 7 = A 7) : CK I0 bn tx B J := by
  obtain ⟨a, b, c, d⟩ := h
  refine ⟨hp.1, hp.rt (by rw [h7, a]) b, fun i hi => ?_, fun x h1 h2 h3 h4 => ?_⟩
  · rw [hp.2.1 58 (by decide) (by decide) (by decide)]; exact c i hi
  · rw [hp.2.1 x h1 h3 h4]; exact d x h1 h2 h3 h4
theorem CK.fin {S : Shp} {T I M : Mem} {bn : Nat} {tx : Nat → Tx} {A : Nat → Int32} {v : Int32} (h : CK (u2 I 55 32 0) bn tx A M) (hI : RI T I) : RO S I (u2 T 55 32 0) v (some (.int v)) S (cpR M 58 56 1433) := by
  obtain ⟨a, b, c, d⟩ := h
  have hU := hI.u 55 32 0
  refine ⟨rfl, rfl, ⟨fun x h1 h2 h3 h4 _ _ _ _ h9 h10 _ => ?_, fun i hi => ?_, ?_, ?_, ?_⟩, fun x hx => ?_⟩
  · rw [cpR_o h3, d x h3 h4 h9 h10]; exact hU x (by omega) h2
  · rw [cpR_t hi, c i hi, hU 56 (by decide) (by decide)]
  · rw [cpR_o (by decide), d 55 (by decide) (by decide) (by decide) (by decide), hU 55 (by decide) (by decide)]
  · rw [cpR_o (by decide), d 55 (by decide) (by decide) (by decide) (by decide), hU 55 (by decide) (by decide)]
  · rw [cpR_o (by decide), d 55 (by decide) (by decide) (by decide) (by decide), hU 55 (by decide) (by decide)]
  · rw [cpR_o (by omega), d x (by omega) (by omega) (by omega) (by omega), u2_row (by omega)]
theorem k_X9_check {G : GX} {S : Shp} {I T M : Mem} {d bn m q w : Nat} {tx : Nat → Tx} {y v : Int32} {A : Nat → Int32} {x5 : Option Value} (hsh : SHP S) (hI : RI T I) (hd : 12 ≤ d) (hm : m ≤ 60) (hq : q ≤ 30) (hw : w ≤ 60) (hM : CK (u2 I 55 32 0) bn tx A M) (hv : (if w = m ∧ w = 2 * q then 0 else nI (1 + w)) = v) : PW G RX9 "check" cX9_check 6 (some .int) d 0 0 (RO S I (u2 T 55 32 0) v) 179 [some (.ref 55), some (.int y), some (.int (nI m)), some (.int (nI (2 * q))), some (.int (nI w)), x5] [] S M := by
  have e1 : (1 : Int32) + nI w = nI (1 + w) := nI_add 1 w
  refine P_aload0 (pc' := 180) dX9_check_179 rfl ?_
  refine P_getr (pc' := 183) dX9_check_180 rfl fl_X9_16 rfl (l_55 hsh) (t_55 hsh) (q_55_2 hsh) ?_
  refine P_aload0 (pc' := 184) dX9_check_183 rfl ?_
  refine P_getr (pc' := 187) dX9_check_184 rfl fl_X9_9 rfl (l_55 hsh) (t_55 hsh) (q_55_0 hsh) ?_
  refine P_callS2 (pc' := 190) dX9_check_187 rfl lk_X9_261 (c_X9_copyAll (d := 1) (l_58 hsh) (t_58 hsh) (l_56 hsh) (t_56 hsh) (by decide)) (by omega) (Nat.le_of_ble_eq_true rfl) (fun r S' I' hq => ?_)
  obtain ⟨rfl, rfl, rfl⟩ := hq
  refine P_iload4 (pc' := 192) dX9_check_190 rfl ?_
  refine P_iload2 (pc' := 193) dX9_check_192 rfl ?_
  refine P_icmp_ne (tgt := 206) (pc' := 196) dX9_check_193 rfl rfl (fun h193 => ?_) (fun h193 => ?_)
  · refine P_iconst (pc' := 207) dX9_check_206 rfl (v := 1) rfl ?_
    refine P_iload4 (pc' := 209) dX9_check_207 rfl ?_
    refine P_iadd (pc' := 210) dX9_check_209 rfl ?_
    skip
    refine P_iret dX9_check_210 ?_
    first
      | (rw [← hv, if_pos ⟨(nI_eq (by omega) (by omega)).mp h193, (nI_eq (by omega) (by omega)).mp h199⟩]; exact hM.fin hI)
      | (rw [← hv, if_neg (fun z => h199 (by rw [z.2])), e1]; exact hM.fin hI)
      | (rw [← hv, if_neg (fun z => h193 (by rw [z.1])), e1]; exact hM.fin hI)
  · refine P_iload4 (pc' := 198) dX9_check_196 rfl ?_
    refine P_iload3 (pc' := 199) dX9_check_198 rfl ?_
    refine P_icmp_ne (tgt := 206) (pc' := 202) dX9_check_199 rfl rfl (fun h199 => ?_) (fun h199 => ?_)
    · refine P_iconst (pc' := 207) dX9_check_206 rfl (v := 1) rfl ?_
      refine P_iload4 (pc' := 209) dX9_check_207 rfl ?_
      refine P_iadd (pc' := 210) dX9_check_209 rfl ?_
      skip
      refine P_iret dX9_check_210 ?_
      first
        | (rw [← hv, if_pos ⟨(nI_eq (by omega) (by omega)).mp h193, (nI_eq (by omega) (by omega)).mp h199⟩]; exact hM.fin hI)
        | (rw [← hv, if_neg (fun z => h199 (by rw [z.2])), e1]; exact hM.fin hI)
        | (rw [← hv, if_neg (fun z => h193 (by rw [z.1])), e1]; exact hM.fin hI)
    · refine P_iconst (pc' := 203) dX9_check_202 rfl (v := 0) rfl ?_
      refine P_goto (tgt := 210) dX9_check_203 rfl ?_
      skip
      refine P_iret dX9_check_210 ?_
      first
        | (rw [← hv, if_pos ⟨(nI_eq (by omega) (by omega)).mp h193, (nI_eq (by omega) (by omega)).mp h199⟩]; exact hM.fin hI)
        | (rw [← hv, if_neg (fun z => h199 (by rw [z.2])), e1]; exact hM.fin hI)
        | (rw [← hv, if_neg (fun z => h193 (by rw [z.1])), e1]; exact hM.fin hI)
theorem lp_X9_check {G : GX} {S : Shp} {I T : Mem} {d bn n m q : Nat} {tx : Nat → Tx} {y v : Int32} (hsh : SHP S) (hI : RI T I) (hrd : RTd bn tx) (hn : n ≤ 8) (hm : m ≤ 60) (hq : q ≤ 30) (hd : 12 ≤ d) : ∀ (k i : Nat) (A : Nat → Int32) (M : Mem), i + k = q → 2 * i ≤ m → WA A n → CK (u2 I 55 32 0) bn tx A M → ckF (alX bn tx) n m (T 76) k i A = v → PW G RX9 "check" cX9_check 6 (some .int) d 0 0 (RO S I (u2 T 55 32 0) v) 79 [some (.ref 55), some (.int y), some (.int (nI m)), some (.int (nI (2 * q))), some (.int (nI (2 * i))), some (.int (nI i))] [] S M := by
  intro k
  induction k with
  | zero =>
    intro i A M hi hi2 hw hM hv
    have hi : i = q := by omega
    subst hi
    have e2 : (2 : Int32) * nI i = nI (2 * i) := pk_mul 2 i
    have hv : (if 2 * i < m then nI (1 + 2 * i) else 0) = v := hv
    refine P_iconst (pc' := 80) dX9_check_79 rfl (v := 2) rfl ?_
    refine P_iload5 (pc' := 82) dX9_check_80 rfl ?_
    refine P_imul (pc' := 83) dX9_check_82 rfl ?_
    refine P_as e2 ?_
    refine P_iload3 (pc' := 84) dX9_check_83 rfl ?_
    refine P_icmp_ge (tgt := 179) (pc' := 87) dX9_check_84 rfl rfl (fun h84 => ?_) (fun h84 => ?_)
    · refine k_X9_check (bn := bn) (tx := tx) hsh hI hd hm hq (by omega) hM ?_
      rw [← hv]
      by_cases z : 2 * i < m
      · rw [if_pos z, if_neg (by omega)]
      · rw [if_neg z, if_pos (by omega)]
    · exact absurd (nI_le (by omega) (by omega)) h84
  | succ k ih =>
    intro i A M hi hi2 hw hM hv
    have e2 : (2 : Int32) * nI i = nI (2 * i) := pk_mul 2 i
    have e3 : nI (2 * i) + 1 = nI (2 * i + 1) := nI_1 (2 * i)
    have e5 : nI (2 * i + 1) + 1 = nI (2 * (i + 1)) := (nI_1 (2 * i + 1)).trans (by rw [show 2 * i + 1 + 1 = 2 * (i + 1) by omega])
    have e6 : (2 : Int32) * nI (i + 1) = nI (2 * (i + 1)) := pk_mul 2 (i + 1)
    rw [ckF_s] at hv
    have step : ∀ (M3 : Mem), CK (u2 I 55 32 0) bn tx (aHour (alX bn tx) n A) M3 → PW G RX9 "check" cX9_check 6 (some .int) d 0 0 (RO S I (u2 T 55 32 0) v) 100 [some (.ref 55), some (.int y), some (.int (nI m)), some (.int (nI (2 * q))), some (.int (nI (2 * i))), some (.int (nI i))] [] S M3 := by
      intro M3 hM3
      have hz3 : M3 56 1 = nI n := by rw [aR_rd M3 (by decide), hM3.1]; exact (aHour_wa hw).1
      have e76 : M3 76 = T 76 := by rw [hM3.2.2.2 76 (by decide) (by decide) (by decide) (by decide), u2_row (by decide)]; exact hI 76 (by decide) (by decide)
      -- behind the first: right is w
      have two : ∀ w : Nat, (w = 2 * i ∧ ¬ (2 * i < m ∧ T 76 (2 * i) = aSum (aHour (alX bn tx) n A) 19 n)) ∨ (w = 2 * i + 1 ∧ (2 * i < m ∧ T 76 (2 * i) = aSum (aHour (alX bn tx) n A) 19 n)) → PW G RX9 "check" cX9_check 6 (some .int) d 0 0 (RO S I (u2 T 55 32 0) v) 129 [some (.ref 55), some (.int y), some (.int (nI m)), some (.int (nI (2 * q))), some (.int (nI (2 * i))), some (.int (nI i))] [.int (nI w)] S M3 := by
        intro w hw2
        rcases hw2 with ⟨rfl, hn1⟩ | ⟨rfl, hy1⟩
        · rw [if_neg hn1] at hv
          refine P_istore4 (pc' := 131) dX9_check_129 rfl (by decide) rfl ?_
          refine P_iload4 (pc' := 133) dX9_check_131 rfl ?_
          refine P_iload4 (pc' := 135) dX9_check_133 rfl ?_
          refine P_iconst (pc' := 136) dX9_check_135 rfl (v := 2) rfl ?_
          refine P_iload5 (pc' := 138) dX9_check_136 rfl ?_
          refine P_imul (pc' := 139) dX9_check_138 rfl ?_
          refine P_as e2 ?_
          refine P_iconst (pc' := 140) dX9_check_139 rfl (v := 1) rfl ?_
          refine P_iadd (pc' := 141) dX9_check_140 rfl ?_
          refine P_as e3 ?_
          refine P_icmp_ne (tgt := 169) (pc' := 144) dX9_check_141 rfl rfl (fun h141 => ?_) (fun h141 => ?_)
          · refine P_iconst (pc' := 170) dX9_check_169 rfl (v := 0) rfl ?_
            refine P_iadd (pc' := 171) dX9_check_170 rfl ?_
            refine P_as (show nI (2 * i) + 0 = nI (2 * i) from Int32.add_zero _) ?_
            refine P_istore4 (pc' := 173) dX9_check_171 rfl (by decide) rfl ?_
            refine P_iinc5 (pc' := 176) dX9_check_173 rfl (nI_1 i) (by decide) rfl ?_
            refine P_goto (tgt := 79) dX9_check_176 rfl ?_
            refine P_iconst (pc' := 80) dX9_check_79 rfl (v := 2) rfl ?_
            refine P_iload5 (pc' := 82) dX9_check_80 rfl ?_
            refine P_imul (pc' := 83) dX9_check_82 rfl ?_
            refine P_as e6 ?_
            refine P_iload3 (pc' := 84) dX9_check_83 rfl ?_
            refine P_icmp_ge (tgt := 179) (pc' := 87) dX9_check_84 rfl rfl (fun h84 => ?_) (fun h84 => ?_)
            · exact k_X9_check (bn := bn) (tx := tx) hsh hI hd hm hq (by omega) hM3 (by rw [if_neg (by omega)]; exact hv)
            · refine P_iload4 (pc' := 89) dX9_check_87 rfl ?_
              refine P_iconst (pc' := 90) dX9_check_89 rfl (v := 2) rfl ?_
              refine P_iload5 (pc' := 92) dX9_check_90 rfl ?_
              refine P_imul (pc' := 93) dX9_check_92 rfl ?_
              refine P_as e6 ?_
              refine P_icmp_ne (tgt := 179) (pc' := 96) dX9_check_93 rfl rfl (fun h93 => ?_) (fun h93 => ?_)
              · exact k_X9_check (bn := bn) (tx := tx) hsh hI hd hm hq (by omega) hM3 (by rw [if_neg (by omega)]; exact hv)
              · exact absurd ((nI_eq (by omega) (by omega)).mp h93) (by omega)
          · exact absurd ((nI_eq (by omega) (by omega)).mp h141) (by omega)
        · rw [if_pos hy1] at hv
          have nx3 : nI (2 + 2 * i) = v → PW G RX9 "check" cX9_check 6 (some .int) d 0 0 (RO S I (u2 T 55 32 0) v) 79 [some (.ref 55), some (.int y), some (.int (nI m)), some (.int (nI (2 * q))), some (.int (nI (2 * i + 1))), some (.int (nI (i + 1)))] [] S M3 := by
            intro hv3
            refine P_iconst (pc' := 80) dX9_check_79 rfl (v := 2) rfl ?_
            refine P_iload5 (pc' := 82) dX9_check_80 rfl ?_
            refine P_imul (pc' := 83) dX9_check_82 rfl ?_
            refine P_as e6 ?_
            refine P_iload3 (pc' := 84) dX9_check_83 rfl ?_
            refine P_icmp_ge (tgt := 179) (pc' := 87) dX9_check_84 rfl rfl (fun h84 => ?_) (fun h84 => ?_)
            · exact k_X9_check (bn := bn) (tx := tx) hsh hI hd hm hq (by omega) hM3 (by rw [if_neg (by omega), show 1 + (2 * i + 1) = 2 + 2 * i by omega]; exact hv3)
            · refine P_iload4 (pc' := 89) dX9_check_87 rfl ?_
              refine P_iconst (pc' := 90) dX9_check_89 rfl (v := 2) rfl ?_
              refine P_iload5 (pc' := 92) dX9_check_90 rfl ?_
              refine P_imul (pc' := 93) dX9_check_92 rfl ?_
              refine P_as e6 ?_
              refine P_icmp_ne (tgt := 179) (pc' := 96) dX9_check_93 rfl rfl (fun h93 => ?_) (fun h93 => ?_)
              · exact k_X9_check (bn := bn) (tx := tx) hsh hI hd hm hq (by omega) hM3 (by rw [if_neg (by omega), show 1 + (2 * i + 1) = 2 + 2 * i by omega]; exact hv3)
              · exact absurd ((nI_eq (by omega) (by omega)).mp h93) (by omega)
          refine P_istore4 (pc' := 131) dX9_check_129 rfl (by decide) rfl ?_
          refine P_iload4 (pc' := 133) dX9_check_131 rfl ?_
          refine P_iload4 (pc' := 135) dX9_check_133 rfl ?_
          refine P_iconst (pc' := 136) dX9_check_135 rfl (v := 2) rfl ?_
          refine P_iload5 (pc' := 138) dX9_check_136 rfl ?_
          refine P_imul (pc' := 139) dX9_check_138 rfl ?_
          refine P_as e2 ?_
          refine P_iconst (pc' := 140) dX9_check_139 rfl (v := 1) rfl ?_
          refine P_iadd (pc' := 141) dX9_check_140 rfl ?_
          refine P_as e3 ?_
          refine P_icmp_ne (tgt := 169) (pc' := 144) dX9_check_141 rfl rfl (fun h141 => ?_) (fun h141 => ?_)
          · exact absurd rfl h141
          · refine P_iload4 (pc' := 146) dX9_check_144 rfl ?_
            refine P_iload2 (pc' := 147) dX9_check_146 rfl ?_
            refine P_icmp_ge (tgt := 169) (pc' := 150) dX9_check_147 rfl rfl (fun h147 => ?_) (fun h147 => ?_)
            · refine P_iconst (pc' := 170) dX9_check_169 rfl (v := 0) rfl ?_
              refine P_iadd (pc' := 171) dX9_check_170 rfl ?_
              first
                | refine P_as (show nI (2 * i + 1) + 0 = nI (2 * i + 1) from Int32.add_zero _) ?_
                | refine P_as e5 ?_
              refine P_istore4 (pc' := 173) dX9_check_171 rfl (by decide) rfl ?_
              refine P_iinc5 (pc' := 176) dX9_check_173 rfl (nI_1 i) (by decide) rfl ?_
              refine P_goto (tgt := 79) dX9_check_176 rfl ?_
              first
                | (have z : 2 * i + 1 < m ∧ T 76 (2 * i + 1) = aSum (aHour (alX bn tx) n A) 20 n := ⟨g0 h147 (by omega) (by omega), h162⟩
                   rw [if_pos z] at hv
                   exact ih (i + 1) _ M3 (by omega) (by omega) (aHour_wa hw) hM3 hv)
                | (have z : ¬ (2 * i + 1 < m ∧ T 76 (2 * i + 1) = aSum (aHour (alX bn tx) n A) 20 n) := fun z => h162 z.2
                   rw [if_neg z] at hv
                   exact nx3 hv)
                | (have z : ¬ (2 * i + 1 < m ∧ T 76 (2 * i + 1) = aSum (aHour (alX bn tx) n A) 20 n) := fun z => absurd (nI_ge z.1 (by omega)) (fun w => w h147)
                   rw [if_neg z] at hv
                   exact nx3 hv)
            · refine P_aload0 (pc' := 151) dX9_check_150 rfl ?_
              refine P_getr (pc' := 154) dX9_check_151 rfl fl_X9_72 rfl (l_55 hsh) (t_55 hsh) (q_55_31 hsh) ?_
              refine P_iload4 (pc' := 156) dX9_check_154 rfl ?_
              refine P_iald (pc' := 157) dX9_check_156 rfl (l_76 hsh) (t_76 hsh) (j := 2 * i + 1) rfl (by have := g0 h147 (by omega) (by omega); omega) (by decide) ?_
              rw [e76]
              refine P_aload0 (pc' := 158) dX9_check_157 rfl ?_
              refine P_iconst (pc' := 159) dX9_check_158 rfl (v := 4) rfl ?_
              refine P_callV1 (pc' := 162) dX9_check_159 rfl lk_X9_140 (l_55 hsh) (t_55 hsh) (c_X9_sumOf (d := 2) (k := 4) hsh hz3 (by omega) (by decide) (by omega)) (by omega) (Nat.le_of_ble_eq_true rfl) (fun r S' I' hq => ?_)
              obtain ⟨rfl, rfl, rfl⟩ := hq
              refine P_as (show aSum (aR M3) (16 + 4) n = aSum (aHour (alX bn tx) n A) 20 n by rw [hM3.1]) ?_
              refine P_icmp_ne (tgt := 169) (pc' := 165) dX9_check_162 rfl rfl (fun h162 => ?_) (fun h162 => ?_)
              · refine P_iconst (pc' := 170) dX9_check_169 rfl (v := 0) rfl ?_
                refine P_iadd (pc' := 171) dX9_check_170 rfl ?_
                first
                  | refine P_as (show nI (2 * i + 1) + 0 = nI (2 * i + 1) from Int32.add_zero _) ?_
                  | refine P_as e5 ?_
                refine P_istore4 (pc' := 173) dX9_check_171 rfl (by decide) rfl ?_
                refine P_iinc5 (pc' := 176) dX9_check_173 rfl (nI_1 i) (by decide) rfl ?_
                refine P_goto (tgt := 79) dX9_check_176 rfl ?_
                first
                  | (have z : 2 * i + 1 < m ∧ T 76 (2 * i + 1) = aSum (aHour (alX bn tx) n A) 20 n := ⟨g0 h147 (by omega) (by omega), h162⟩
                     rw [if_pos z] at hv
                     exact ih (i + 1) _ M3 (by omega) (by omega) (aHour_wa hw) hM3 hv)
                  | (have z : ¬ (2 * i + 1 < m ∧ T 76 (2 * i + 1) = aSum (aHour (alX bn tx) n A) 20 n) := fun z => h162 z.2
                     rw [if_neg z] at hv
                     exact nx3 hv)
                  | (have z : ¬ (2 * i + 1 < m ∧ T 76 (2 * i + 1) = aSum (aHour (alX bn tx) n A) 20 n) := fun z => absurd (nI_ge z.1 (by omega)) (fun w => w h147)
                     rw [if_neg z] at hv
                     exact nx3 hv)
              · refine P_iconst (pc' := 166) dX9_check_165 rfl (v := 1) rfl ?_
                refine P_goto (tgt := 170) dX9_check_166 rfl ?_
                refine P_iadd (pc' := 171) dX9_check_170 rfl ?_
                first
                  | refine P_as (show nI (2 * i + 1) + 0 = nI (2 * i + 1) from Int32.add_zero _) ?_
                  | refine P_as e5 ?_
                refine P_istore4 (pc' := 173) dX9_check_171 rfl (by decide) rfl ?_
                refine P_iinc5 (pc' := 176) dX9_check_173 rfl (nI_1 i) (by decide) rfl ?_
                refine P_goto (tgt := 79) dX9_check_176 rfl ?_
                first
                  | (have z : 2 * i + 1 < m ∧ T 76 (2 * i + 1) = aSum (aHour (alX bn tx) n A) 20 n := ⟨g0 h147 (by omega) (by omega), h162⟩
                     rw [if_pos z] at hv
                     exact ih (i + 1) _ M3 (by omega) (by omega) (aHour_wa hw) hM3 hv)
                  | (have z : ¬ (2 * i + 1 < m ∧ T 76 (2 * i + 1) = aSum (aHour (alX bn tx) n A) 20 n) := fun z => h162 z.2
                     rw [if_neg z] at hv
                     exact nx3 hv)
                  | (have z : ¬ (2 * i + 1 < m ∧ T 76 (2 * i + 1) = aSum (aHour (alX bn tx) n A) 20 n) := fun z => absurd (nI_ge z.1 (by omega)) (fun w => w h147)
                     rw [if_neg z] at hv
                     exact nx3 hv)
      refine P_iload4 (pc' := 102) dX9_check_100 rfl ?_
      refine P_iload4 (pc' := 104) dX9_check_102 rfl ?_
      refine P_iload2 (pc' := 105) dX9_check_104 rfl ?_
      refine P_icmp_ge (tgt := 127) (pc' := 108) dX9_check_105 rfl rfl (fun h105 => ?_) (fun h105 => ?_)
      · refine P_iconst (pc' := 128) dX9_check_127 rfl (v := 0) rfl ?_
        refine P_iadd (pc' := 129) dX9_check_128 rfl ?_
        first
          | (refine P_as e3 ?_
             exact two _ (Or.inr ⟨rfl, g0 h105 (by omega) (by omega), h120⟩))
          | (refine P_as (show nI (2 * i) + 0 = nI (2 * i) from Int32.add_zero _) ?_
             exact two _ (Or.inl ⟨rfl, fun z => h120 z.2⟩))
          | (refine P_as (show nI (2 * i) + 0 = nI (2 * i) from Int32.add_zero _) ?_
             exact two _ (Or.inl ⟨rfl, fun z => absurd h105 (nI_ge z.1 (by omega))⟩))
      · refine P_aload0 (pc' := 109) dX9_check_108 rfl ?_
        refine P_getr (pc' := 112) dX9_check_109 rfl fl_X9_72 rfl (l_55 hsh) (t_55 hsh) (q_55_31 hsh) ?_
        refine P_iload4 (pc' := 114) dX9_check_112 rfl ?_
        refine P_iald (pc' := 115) dX9_check_114 rfl (l_76 hsh) (t_76 hsh) (j := 2 * i) rfl (by have := g0 h105 (by omega) (by omega); omega) (by decide) ?_
        rw [e76]
        refine P_aload0 (pc' := 116) dX9_check_115 rfl ?_
        refine P_iconst (pc' := 117) dX9_check_116 rfl (v := 3) rfl ?_
        refine P_callV1 (pc' := 120) dX9_check_117 rfl lk_X9_140 (l_55 hsh) (t_55 hsh) (c_X9_sumOf (d := 2) (k := 3) hsh hz3 (by omega) (by decide) (by omega)) (by omega) (Nat.le_of_ble_eq_true rfl) (fun r S' I' hq => ?_)
        obtain ⟨rfl, rfl, rfl⟩ := hq
        refine P_as (show aSum (aR M3) (16 + 3) n = aSum (aHour (alX bn tx) n A) 19 n by rw [hM3.1]) ?_
        refine P_icmp_ne (tgt := 127) (pc' := 123) dX9_check_120 rfl rfl (fun h120 => ?_) (fun h120 => ?_)
        · refine P_iconst (pc' := 128) dX9_check_127 rfl (v := 0) rfl ?_
          refine P_iadd (pc' := 129) dX9_check_128 rfl ?_
          first
            | (refine P_as e3 ?_
               exact two _ (Or.inr ⟨rfl, g0 h105 (by omega) (by omega), h120⟩))
            | (refine P_as (show nI (2 * i) + 0 = nI (2 * i) from Int32.add_zero _) ?_
               exact two _ (Or.inl ⟨rfl, fun z => h120 z.2⟩))
            | (refine P_as (show nI (2 * i) + 0 = nI (2 * i) from Int32.add_zero _) ?_
               exact two _ (Or.inl ⟨rfl, fun z => absurd h105 (nI_ge z.1 (by omega))⟩))
        · refine P_iconst (pc' := 124) dX9_check_123 rfl (v := 1) rfl ?_
          refine P_goto (tgt := 128) dX9_check_124 rfl ?_
          refine P_iadd (pc' := 129) dX9_check_128 rfl ?_
          first
            | (refine P_as e3 ?_
               exact two _ (Or.inr ⟨rfl, g0 h105 (by omega) (by omega), h120⟩))
            | (refine P_as (show nI (2 * i) + 0 = nI (2 * i) from Int32.add_zero _) ?_
               exact two _ (Or.inl ⟨rfl, fun z => h120 z.2⟩))
            | (refine P_as (show nI (2 * i) + 0 = nI (2 * i) from Int32.add_zero _) ?_
               exact two _ (Or.inl ⟨rfl, fun z => absurd h105 (nI_ge z.1 (by omega))⟩))
    refine P_iconst (pc' := 80) dX9_check_79 rfl (v := 2) rfl ?_
    refine P_iload5 (pc' := 82) dX9_check_80 rfl ?_
    refine P_imul (pc' := 83) dX9_check_82 rfl ?_
    refine P_as e2 ?_
    refine P_iload3 (pc' := 84) dX9_check_83 rfl ?_
    refine P_icmp_ge (tgt := 179) (pc' := 87) dX9_check_84 rfl rfl (fun h84 => ?_) (fun h84 => ?_)
    · exact absurd h84 (nI_ge (by omega) (by omega))
    · refine P_iload4 (pc' := 89) dX9_check_87 rfl ?_
      refine P_iconst (pc' := 90) dX9_check_89 rfl (v := 2) rfl ?_
      refine P_iload5 (pc' := 92) dX9_check_90 rfl ?_
      refine P_imul (pc' := 93) dX9_check_92 rfl ?_
      refine P_as e2 ?_
      refine P_icmp_ne (tgt := 179) (pc' := 96) dX9_check_93 rfl rfl (fun h93 => ?_) (fun h93 => ?_)
      · exact absurd rfl h93
      · refine P_aload0 (pc' := 97) dX9_check_96 rfl ?_
        refine P_callV0 (pc' := 100) dX9_check_97 rfl lk_X9_137 (l_55 hsh) (t_55 hsh) (c_X9_hour (d := 6) (n := n) hsh hM.2.1 hrd (by rw [hM.1]; exact hw) (by omega)) (by omega) (Nat.le_of_ble_eq_true rfl) (fun r S3 I3 hq => ?_)
        obtain ⟨rfl, rfl, hP⟩ := hq
        rw [hM.1] at hP
        exact step I3 (hM.ps hP aHour_7)
theorem r_check {G : GX} {S : Shp} {I T : Mem} {d tn bn : Nat} {tx : Nat → Tx} (hT : KT T tn bn tx) (hsh : SHP S) (hI : RI T I) (y : Int32) (hd : 12 ≤ d) : PM G yX9_check cX9_check 6 (some .int) d 0 0 [.ref 55, .int y] S I (RO S I (u2 T 55 32 0) (vChk T bn tx y)) := by
  obtain ⟨m, hm, em⟩ := hT.2.2.2.2.2.2.1
  have e5 : I 55 32 = nI m := by rw [hI 55 (by decide) (by decide)]; exact em
  have e3 : u2 I 55 32 0 55 3 = T 55 3 := by rw [u2_k (by decide), hI 55 (by decide) (by decide)]
  have fin0 : ∀ v, RO S I (u2 T 55 32 0) v (some (.int v)) S (u2 I 55 32 0) := fun v => ⟨rfl, rfl, RE.rf (hI.u _ _ _), fun x hx => u2_row (by omega)⟩
  refine PM.of (ls := [some (.ref 55), some (.int y), none, none, none, none]) (by decide) rfl (Nat.le_of_ble_eq_true rfl) rfl ?_
  show PW G RX9 "check" _ _ _ _ _ _ _ _ _ _ _ _
  by_cases hy : wi y 1 30 = 0
  · rw [show vChk T bn tx y = -1000000001 from if_pos hy]
    refine P_aload0 (pc' := 1) dX9_check_0 rfl ?_
    refine P_geti (pc' := 4) dX9_check_1 rfl fl_X9_254 rfl (l_55 hsh) (t_55 hsh) ?_
    refine P_istore2 (pc' := 5) dX9_check_4 rfl (by decide) rfl ?_
    refine P_aload0 (pc' := 6) dX9_check_5 rfl ?_
    refine P_iconst (pc' := 7) dX9_check_6 rfl (v := 0) rfl ?_
    refine P_puti (pc' := 10) dX9_check_7 rfl fl_X9_254 rfl (l_55 hsh) (t_55 hsh) ?_
    refine P_iload1 (pc' := 11) dX9_check_10 rfl ?_
    refine P_iconst (pc' := 12) dX9_check_11 rfl (v := 1) rfl ?_
    refine P_bipush (pc' := 14) dX9_check_12 rfl (v := 30) rfl ?_
    refine P_callS3 (pc' := 17) dX9_check_14 rfl lk_X9_75 (c_X9_in (d := 0) y 1 30) (by omega) (Nat.le_of_ble_eq_true rfl) (fun r S' I' hq => ?_)
    obtain ⟨rfl, rfl, rfl⟩ := hq
    refine P_if_ne (tgt := 23) (pc' := 20) dX9_check_17 rfl rfl (fun h17 => ?_) (fun h17 => ?_)
    · exact absurd hy h17
    · refine P_ldc (pc' := 22) dX9_check_20 rfl co_X9_83 ?_
      refine P_iret dX9_check_22 ?_
      exact fin0 _
  by_cases h3 : T 55 3 = 0
  · rw [show vChk T bn tx y = -1000000002 from (if_neg hy).trans (if_pos h3)]
    refine P_aload0 (pc' := 1) dX9_check_0 rfl ?_
    refine P_geti (pc' := 4) dX9_check_1 rfl fl_X9_254 rfl (l_55 hsh) (t_55 hsh) ?_
    refine P_istore2 (pc' := 5) dX9_check_4 rfl (by decide) rfl ?_
    refine P_aload0 (pc' := 6) dX9_check_5 rfl ?_
    refine P_iconst (pc' := 7) dX9_check_6 rfl (v := 0) rfl ?_
    refine P_puti (pc' := 10) dX9_check_7 rfl fl_X9_254 rfl (l_55 hsh) (t_55 hsh) ?_
    refine P_iload1 (pc' := 11) dX9_check_10 rfl ?_
    refine P_iconst (pc' := 12) dX9_check_11 rfl (v := 1) rfl ?_
    refine P_bipush (pc' := 14) dX9_check_12 rfl (v := 30) rfl ?_
    refine P_callS3 (pc' := 17) dX9_check_14 rfl lk_X9_75 (c_X9_in (d := 0) y 1 30) (by omega) (Nat.le_of_ble_eq_true rfl) (fun r S' I' hq => ?_)
    obtain ⟨rfl, rfl, rfl⟩ := hq
    refine P_if_ne (tgt := 23) (pc' := 20) dX9_check_17 rfl rfl (fun h17 => ?_) (fun h17 => ?_)
    · refine P_aload0 (pc' := 24) dX9_check_23 rfl ?_
      refine P_geti (pc' := 27) dX9_check_24 rfl fl_X9_257 rfl (l_55 hsh) (t_55 hsh) ?_
      refine P_as e3 ?_
      refine P_if_ne (tgt := 33) (pc' := 30) dX9_check_27 rfl rfl (fun h27 => ?_) (fun h27 => ?_)
      · exact absurd h3 h27
      · refine P_ldc (pc' := 32) dX9_check_30 rfl co_X9_253 ?_
        refine P_iret dX9_check_32 ?_
        exact fin0 _
    · exact absurd h17 hy
  have h31 : T 55 3 = 1 := hT.2.2.2.1.1.resolve_left h3
  obtain ⟨⟨⟨n, hn, hw⟩, ⟨g, hg, eg, -⟩, -⟩, hRT⟩ := hT.2.2.2.1.2 h31
  have hbn := hT.2.2.1
  obtain ⟨j, j1, j30, rfl⟩ := wi_b1 (m := 30) (by decide) hy
  have ev : vChk T bn tx (nI j) = ckF (alX bn tx) n m (T 76) (min j (9999 - g)) 0 (aB T) := by unfold vChk; rw [if_neg hy, if_neg h3, nI_clamp (by omega), hw.1, nI_clamp (by omega), em, nI_clamp (by omega), eg, nI_clamp (by omega)]
  rw [ev]
  have m57 : ∀ i, cpR (u2 I 55 32 0) 56 58 1433 57 i = T 57 i := fun i => by rw [cpR_o (by decide), u2_row (by decide), hI 57 (by decide) (by decide)]
  have hM : CK (u2 I 55 32 0) bn tx (aB T) (cpR (cpR (u2 I 55 32 0) 56 58 1433) 57 56 1433) := by
    refine ⟨?_, hRT.mv2 ?_ (fun i _ hi => ?_), fun i hi => ?_, fun x h1 h2 _ _ => ?_⟩
    · funext i
      unfold aR aB
      by_cases hi : i < 61
      · rw [if_pos hi, if_pos hi, cpR_t (by omega), m57]
      · rw [if_neg hi, if_neg hi]
    · rw [cpR_t (by decide), m57, sR_s]
    · rw [cpR_t hi, m57, sR_s]
    · rw [cpR_o (by decide), cpR_t hi]
    · rw [cpR_o h1, cpR_o h2]
  have eh : cpR (cpR (u2 I 55 32 0) 56 58 1433) 57 56 1433 56 2 = nI g := by rw [cpR_t (by decide), m57]; exact eg
  refine P_aload0 (pc' := 1) dX9_check_0 rfl ?_
  refine P_geti (pc' := 4) dX9_check_1 rfl fl_X9_254 rfl (l_55 hsh) (t_55 hsh) ?_
  refine P_as e5 ?_
  refine P_istore2 (pc' := 5) dX9_check_4 rfl (by decide) rfl ?_
  refine P_aload0 (pc' := 6) dX9_check_5 rfl ?_
  refine P_iconst (pc' := 7) dX9_check_6 rfl (v := 0) rfl ?_
  refine P_puti (pc' := 10) dX9_check_7 rfl fl_X9_254 rfl (l_55 hsh) (t_55 hsh) ?_
  refine P_iload1 (pc' := 11) dX9_check_10 rfl ?_
  refine P_iconst (pc' := 12) dX9_check_11 rfl (v := 1) rfl ?_
  refine P_bipush (pc' := 14) dX9_check_12 rfl (v := 30) rfl ?_
  refine P_callS3 (pc' := 17) dX9_check_14 rfl lk_X9_75 (c_X9_in (d := 0) _ 1 30) (by omega) (Nat.le_of_ble_eq_true rfl) (fun r S' I' hq => ?_)
  obtain ⟨rfl, rfl, rfl⟩ := hq
  refine P_if_ne (tgt := 23) (pc' := 20) dX9_check_17 rfl rfl (fun h17 => ?_) (fun h17 => ?_)
  · refine P_aload0 (pc' := 24) dX9_check_23 rfl ?_
    refine P_geti (pc' := 27) dX9_check_24 rfl fl_X9_257 rfl (l_55 hsh) (t_55 hsh) ?_
    refine P_as e3 ?_
    refine P_if_ne (tgt := 33) (pc' := 30) dX9_check_27 rfl rfl (fun h27 => ?_) (fun h27 => ?_)
    · refine P_aload0 (pc' := 34) dX9_check_33 rfl ?_
      refine P_getr (pc' := 37) dX9_check_34 rfl fl_X9_9 rfl (l_55 hsh) (t_55 hsh) (q_55_0 hsh) ?_
      refine P_aload0 (pc' := 38) dX9_check_37 rfl ?_
      refine P_getr (pc' := 41) dX9_check_38 rfl fl_X9_16 rfl (l_55 hsh) (t_55 hsh) (q_55_2 hsh) ?_
      refine P_callS2 (pc' := 44) dX9_check_41 rfl lk_X9_261 (c_X9_copyAll (d := 1) (l_56 hsh) (t_56 hsh) (l_58 hsh) (t_58 hsh) (by decide)) (by omega) (Nat.le_of_ble_eq_true rfl) (fun r S' I' hq => ?_)
      obtain ⟨rfl, rfl, rfl⟩ := hq
      refine P_aload0 (pc' := 45) dX9_check_44 rfl ?_
      refine P_getr (pc' := 48) dX9_check_45 rfl fl_X9_13 rfl (l_55 hsh) (t_55 hsh) (q_55_1 hsh) ?_
      refine P_aload0 (pc' := 49) dX9_check_48 rfl ?_
      refine P_getr (pc' := 52) dX9_check_49 rfl fl_X9_9 rfl (l_55 hsh) (t_55 hsh) (q_55_0 hsh) ?_
      refine P_callS2 (pc' := 55) dX9_check_52 rfl lk_X9_261 (c_X9_copyAll (d := 1) (l_57 hsh) (t_57 hsh) (l_56 hsh) (t_56 hsh) (by decide)) (by omega) (Nat.le_of_ble_eq_true rfl) (fun r S' I' hq => ?_)
      obtain ⟨rfl, rfl, rfl⟩ := hq
      refine P_iconst (pc' := 56) dX9_check_55 rfl (v := 2) rfl ?_
      refine P_sipush (pc' := 59) dX9_check_56 rfl (v := 9999) rfl ?_
      refine P_aload0 (pc' := 60) dX9_check_59 rfl ?_
      refine P_getr (pc' := 63) dX9_check_60 rfl fl_X9_9 rfl (l_55 hsh) (t_55 hsh) (q_55_0 hsh) ?_
      refine P_iconst (pc' := 64) dX9_check_63 rfl (v := 2) rfl ?_
      refine P_iald (pc' := 65) dX9_check_64 rfl (l_56 hsh) (t_56 hsh) (j := 2) rfl (by decide) (by decide) ?_
      refine P_as eh ?_
      refine P_isub (pc' := 66) dX9_check_65 rfl ?_
      refine P_as (y := nI (9999 - g)) (pk_sub (a := 9999) (b := g) hg) ?_
      refine P_iconst (pc' := 67) dX9_check_66 rfl (v := 0) rfl ?_
      refine P_iload1 (pc' := 68) dX9_check_67 rfl ?_
      refine P_callS3 (pc' := 71) dX9_check_68 rfl lk_X9_110 (c_X9_within (d := 0) _ _ _) (by omega) (Nat.le_of_ble_eq_true rfl) (fun r S' I' hq => ?_)
      obtain ⟨rfl, rfl, rfl⟩ := hq
      refine P_as (hl_min (a := 9999 - g) (b := j) (by omega) (by omega)) ?_
      refine P_imul (pc' := 72) dX9_check_71 rfl ?_
      refine P_as (y := nI (2 * min j (9999 - g))) (pk_mul 2 _) ?_
      refine P_istore3 (pc' := 73) dX9_check_72 rfl (by decide) rfl ?_
      refine P_iconst (pc' := 74) dX9_check_73 rfl (v := 0) rfl ?_
      refine P_istore4 (pc' := 76) dX9_check_74 rfl (by decide) rfl ?_
      refine P_iconst (pc' := 77) dX9_check_76 rfl (v := 0) rfl ?_
      refine P_istore5 (pc' := 79) dX9_check_77 rfl (by decide) rfl ?_
      exact lp_X9_check hsh hI (fun t ht => (hT.2.1.2 t (by omega)).1) hn hm (by omega) hd (min j (9999 - g)) 0 (aB T) _ (by omega) (by omega) hw hM rfl
    · exact absurd h27 h3
  · exact absurd h17 hy

