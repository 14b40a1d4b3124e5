/-- what a law gives, from an empty stack -/
def evT (T : Tx) (a b c : Int32) : Int32 := (woG (fun j => if j = 0 then a else if j = 1 then b else c) T.2.2.2 T.2.1 0 (0, fun _ => 0)).2 0
theorem woS_ind {fc fc' : Nat → Int32} {k : Int32} {tp : Nat} {s1 s2 : Nat → Int32} (hk : okS k tp) (hf : ∀ j, j < 3 → fc j = fc' j) (h : ∀ j, j < tp → s1 j = s2 j) : ∀ j, j < dpS k tp → (woS fc k (tp, s1)).2 j = (woS fc' k (tp, s2)).2 j := by
  intro j hj
  unfold okS at hk
  unfold dpS at hj
  unfold woS
  dsimp only
  by_cases k0 : k < 0
  · rw [if_pos k0] at hk hj ⊢
    rw [if_pos k0]
    by_cases k1 : k = -10
    · rw [if_pos k1] at hk hj ⊢
      rw [if_pos k1]
      show upd s1 _ _ j = upd s2 _ _ j
      unfold upd
      simp only [h (tp - 1) (by omega), h j hj]
    · rw [if_neg k1] at hk hj ⊢
      rw [if_neg k1]
      show upd s1 _ _ j = upd s2 _ _ j
      unfold upd
      rw [h (tp - 1) (by omega), h (tp - 2) (by omega), h j (by omega)]
  · rw [if_neg k0] at hk hj ⊢
    rw [if_neg k0]
    show upd s1 _ _ j = upd s2 _ _ j
    unfold upd
    by_cases q : j = tp
    · rw [if_pos q, if_pos q]
      by_cases k2 : 10000 ≤ k
      · rw [if_pos k2, if_pos k2]
        obtain ⟨i, hi, e⟩ := hk.2 k2
        apply hf
        rw [e, show (10000 : Int32) = nI 10000 from rfl, pk_sub (by omega), nI_clamp (by omega)]
        omega
      · rw [if_neg k2, if_neg k2]
    · rw [if_neg q, if_neg q, h j (by omega)]
def dpN (cd : Nat → Int32) : Nat → Nat → Nat → Nat
  | 0, _, tp => tp
  | n + 1, i, tp => dpN cd n (i + 1) (dpS (cd i) tp)
theorem woG_ind {fc fc' cd : Nat → Int32} (hf : ∀ j, j < 3 → fc j = fc' j) : ∀ (n i tp : Nat) (s1 s2 : Nat → Int32), OkC cd n i tp → (∀ j, j < tp → s1 j = s2 j) → ∀ j, j < dpN cd n i tp → (woG fc cd n i (tp, s1)).2 j = (woG fc' cd n i (tp, s2)).2 j := by
  intro n
  induction n with
  | zero => intro i tp s1 s2 _ h j hj; exact h j hj
  | succ n ih =>
    intro i tp s1 s2 hok h j hj
    rw [woG_s, woG_s]
    have e1 : woS fc (cd i) (tp, s1) = (dpS (cd i) tp, (woS fc (cd i) (tp, s1)).2) := Prod.ext (woS_1 _ _ _) rfl
    have e2 : woS fc' (cd i) (tp, s2) = (dpS (cd i) tp, (woS fc' (cd i) (tp, s2)).2) := Prod.ext (woS_1 _ _ _) rfl
    rw [e1, e2]
    exact ih (i + 1) _ _ _ hok.2 (woS_ind hok.1 hf h) j hj
/-- every law leaves something -/
def RTd (tn : Nat) (tx : Nat → Tx) : Prop := ∀ t, t < tn → 1 ≤ dpN (tx t).2.2.2 (tx t).2.1 0 0
/-- what alms is with these laws -/
def alX (tn : Nat) (tx : Nat → Tx) : Int32 → Int32 → Int32 → Int32 := match lastK tx 0 tn with
  | none => alD
  | some t => fun c g s => hl (evT (tx t) c g s) 0 99
def AlN (al : Int32 → Int32 → Int32 → Int32) : Prop := ∀ c g s, 1 ≤ c → c ≤ 9 → g ≤ 9 → s ≤ 20 → ∃ p, p ≤ 99 ∧ al (nI c) (nI g) (nI s) = nI p
theorem hl_n (v : Int32) : ∃ p, p ≤ 99 ∧ hl v 0 99 = nI p := by
  unfold hl
  by_cases h1 : v < 0
  · rw [if_pos h1]; exact ⟨0, by decide, rfl⟩
  · rw [if_neg h1]
    by_cases h2 : 99 < v
    · rw [if_pos h2]; exact ⟨99, by decide, rfl⟩
    · rw [if_neg h2]
      obtain ⟨j, hj, e⟩ := nI_of2 (M := 99) (n := 99) (by decide) h1 (Int32.not_lt.mp h2)
      exact ⟨j, hj, e⟩
theorem alD_n {c g s : Nat} (h2 : c ≤ 9) (h3 : g ≤ 9) (h4 : s ≤ 20) : ∃ p, p ≤ 99 ∧ alD (nI c) (nI g) (nI s) = nI p := by
  have hcg : c * g ≤ 81 := Nat.mul_le_mul h2 h3
  refine ⟨c * g / 9 + s / 5, by omega, ?_⟩
  unfold alD
  rw [pk_mul, show (9 : Int32) = nI 9 from rfl, pk_div (by omega) (by decide) (by decide), show (5 : Int32) = nI 5 from rfl, pk_div (by omega) (by decide) (by decide), nI_add]
theorem alX_n (tn : Nat) (tx : Nat → Tx) : AlN (alX tn tx) := by
  intro c g s h1 h2 h3 h4
  unfold alX
  cases lastK tx 0 tn with
  | none => exact alD_n h2 h3 h4
  | some t => exact hl_n _
def kG2 (k p m g q : Int32) : Int32 :=
  if k = 1 then p + m / 3 else if k = 2 then (if 5 ≤ m then 2 * p else p) else if k = 3 then (p + m / 3) / (if q = 1 then 2 else 1) else if k = 4 then (if 5 ≤ m then (if 8 ≤ m then 0 else 2 * p) else p) else if k = 5 then (if g < 3 then 0 else if p = 0 then 0 else p - 1) else p
theorem kG2_eq {k m q : Int32} {p g : Nat} (hk : isK k) (hq : q = 0 ∨ q = 1) (hp : p ≤ 99) : kG2 k (nI p) m (nI g) q = kGift k (nI p) m (nI g) q := by
  rcases hk with rfl | rfl | rfl | rfl | rfl | rfl
  · rfl
  · rfl
  · show (if 5 ≤ m then 2 * nI p else nI p) = gc (nI p) m
    unfold gc
    by_cases h : m < 5
    · rw [if_pos h, if_neg (Int32.not_le.mpr h)]
    · rw [if_neg h, if_pos (Int32.not_lt.mp h)]
  · rcases hq with rfl | rfl
    · show (nI p + m / 3) / 1 = nI p + m / 3
      exact Int32.div_one
    · rfl
  · show (if 5 ≤ m then (if 8 ≤ m then 0 else 2 * nI p) else nI p) = (if m < 8 then gc (nI p) m else 0)
    unfold gc
    by_cases h : m < 5
    · rw [if_neg (Int32.not_le.mpr h), if_pos (Int32.lt_trans h (by decide)), if_pos h]
    · rw [if_pos (Int32.not_lt.mp h)]
      by_cases h8 : m < 8
      · rw [if_neg (Int32.not_le.mpr h8), if_pos h8, if_neg h]
      · rw [if_pos (Int32.not_lt.mp h8), if_neg h8]
  · show (if nI g < 3 then 0 else if nI p = 0 then 0 else nI p - 1) = (if 3 ≤ nI g then (if nI p - 1 < 0 then 0 else nI p - 1) else 0)
    by_cases h : nI g < 3
    · rw [if_pos h, if_neg (Int32.not_le.mpr h)]
    · rw [if_neg h, if_pos (Int32.not_lt.mp h)]
      have key : ∀ p, p ≤ 99 → (if nI p = 0 then 0 else nI p - 1) = (if nI p - 1 < 0 then (0 : Int32) else nI p - 1) := by decide +kernel
      exact key p hp
/-- behind a call on the reference's row -/
def PsR (I : Mem) (A : Nat → Int32) (J : Mem) : Prop := aR J = A ∧ FrR I J
theorem PsR.self {I : Mem} : PsR I (aR I) I := ⟨rfl, FrR.rf⟩
theorem PsR.tr {I J K : Mem} {A B : Nat → Int32} (h1 : PsR I A J) (h2 : PsR J B K) : PsR I B K := ⟨h2.1, h1.2.tr h2.2⟩
theorem PsR.put {I : Mem} {i : Nat} {v : Int32} (hi : i < 61) : PsR I (upd (aR I) i v) (u2 I 56 i v) := ⟨aR_u hi v, FrR.rf.put hi⟩
theorem PsR.scr {I J : Mem} (h : ∀ x, x ≠ 66 → x ≠ 67 → J x = I x) : PsR I (aR I) J := ⟨aR_o (h 56 (by decide) (by decide)), fun x _ b c => h x b c, fun i _ => by rw [h 56 (by decide) (by decide)]⟩
theorem PsR.rt {I J : Mem} {A : Nat → Int32} {tn : Nat} {tx : Nat → Tx} (h : PsR I A J) (h7 : A 7 = aR I 7) (hr : RT I tn tx) : RT J tn tx :=
  hr.mv (by rw [aR_rd J (by decide), aR_rd I (by decide), h.1, h7]) h.2.2
theorem alX_none {tn : Nat} {tx : Nat → Tx} (h : lastK tx 0 tn = none) : alX tn tx = alD := by unfold alX; rw [h]
theorem alX_some {tn t : Nat} {tx : Nat → Tx} (h : lastK tx 0 tn = some t) (c g s : Int32) : alX tn tx c g s = hl (evT (tx t) c g s) 0 99 := by unfold alX; rw [h]
/-- from the kind on -/
theorem k_X9_givenTo {G : GX} {S : Shp} {J : Mem} {d b g n p : Nat} {m x2 : Int32} {x5 : Option Value} {A : Nat → Int32} {Q : Option Value → Shp → Mem → Prop} (hsh : SHP S) (hA : aR J = A) (hw : WA A n) (hb : b < 9) (hp : p ≤ 99) (hx5 : lc1 x5 = true) (hd : 1 ≤ d) (hQ : Q (some (.int (kGift (A (16 + 5 * b)) (nI p) m (nI g) (A 4)))) S J) : PW G RX9 "givenTo" cX9_givenTo 7 (some .int) d 0 0 Q 70 [some (.ref 55), some (.int (nI b)), some (.int x2), some (.int m), some (.int (nI g)), x5, none] [.int (nI p)] S J := by
  obtain ⟨k1, -, -⟩ := hw.2.2.2.2 b hb
  have w4 := hw.2.2.1
  rw [← kG2_eq k1 w4 hp] at hQ
  have e0 : J 56 (16 + 5 * b + 0) = A (16 + 5 * b) := by rw [← hA, aR_rd J (by omega)]; rfl
  have e4 : J 56 4 = A 4 := by rw [← hA, aR_rd J (by decide)]
  generalize A (16 + 5 * b) = k at k1 hQ e0
  generalize A 4 = q at w4 hQ e4
  refine P_istore6 (pc' := 72) dX9_givenTo_70 rfl (by decide) hx5 ?_
  refine P_aload0 (pc' := 73) dX9_givenTo_72 rfl ?_
  refine P_iload1 (pc' := 74) dX9_givenTo_73 rfl ?_
  refine P_iconst (pc' := 75) dX9_givenTo_74 rfl (v := nI 0) rfl ?_
  refine P_callV2 (pc' := 78) dX9_givenTo_75 rfl lk_X9_89 (l_55 hsh) (t_55 hsh) (c_X9_of (d := 0) hsh hb (by decide)) (by omega) (Nat.le_of_ble_eq_true rfl) (fun r S' I' hq => ?_)
  obtain ⟨rfl, rfl, rfl⟩ := hq
  refine P_as e0 ?_
  rcases k1 with rfl | rfl | rfl | rfl | rfl | rfl
  · skip
    refine P_tabOut (tgt := 202) dX9_givenTo_78 (by decide) rfl ?_
    refine P_iload6 (pc' := 204) dX9_givenTo_202 rfl ?_
    refine P_iret dX9_givenTo_204 ?_
    exact hQ
  · skip
    refine P_tabIn (tgt := 112) dX9_givenTo_78 (by decide) (by decide) rfl rfl ?_
    refine P_iload6 (pc' := 114) dX9_givenTo_112 rfl ?_
    refine P_iload3 (pc' := 115) dX9_givenTo_114 rfl ?_
    refine P_iconst (pc' := 116) dX9_givenTo_115 rfl (v := 3) rfl ?_
    refine P_idiv (pc' := 117) dX9_givenTo_116 rfl (by decide) ?_
    refine P_iadd (pc' := 118) dX9_givenTo_117 rfl ?_
    refine P_iret dX9_givenTo_118 ?_
    exact hQ
  · skip
    refine P_tabIn (tgt := 119) dX9_givenTo_78 (by decide) (by decide) rfl rfl ?_
    refine P_iload3 (pc' := 120) dX9_givenTo_119 rfl ?_
    refine P_iconst (pc' := 121) dX9_givenTo_120 rfl (v := 5) rfl ?_
    refine P_icmp_ge (tgt := 129) (pc' := 124) dX9_givenTo_121 rfl rfl (fun h121 => ?_) (fun h121 => ?_)
    · refine P_iconst (pc' := 130) dX9_givenTo_129 rfl (v := 2) rfl ?_
      refine P_iload6 (pc' := 132) dX9_givenTo_130 rfl ?_
      refine P_imul (pc' := 133) dX9_givenTo_132 rfl ?_
      refine P_iret dX9_givenTo_133 ?_
      first | (rw [show kG2 2 (nI p) m (nI g) q = 2 * nI p from by show (if 5 ≤ m then 2 * nI p else nI p) = _; rw [if_pos h121]] at hQ; exact hQ) | (rw [show kG2 2 (nI p) m (nI g) q = nI p from by show (if 5 ≤ m then 2 * nI p else nI p) = _; rw [if_neg h121]] at hQ; exact hQ)
    · refine P_iload6 (pc' := 126) dX9_givenTo_124 rfl ?_
      refine P_goto (tgt := 133) dX9_givenTo_126 rfl ?_
      refine P_iret dX9_givenTo_133 ?_
      first | (rw [show kG2 2 (nI p) m (nI g) q = 2 * nI p from by show (if 5 ≤ m then 2 * nI p else nI p) = _; rw [if_pos h121]] at hQ; exact hQ) | (rw [show kG2 2 (nI p) m (nI g) q = nI p from by show (if 5 ≤ m then 2 * nI p else nI p) = _; rw [if_neg h121]] at hQ; exact hQ)
  · skip
    refine P_tabIn (tgt := 134) dX9_givenTo_78 (by decide) (by decide) rfl rfl ?_
    refine P_iload6 (pc' := 136) dX9_givenTo_134 rfl ?_
    refine P_iload3 (pc' := 137) dX9_givenTo_136 rfl ?_
    refine P_iconst (pc' := 138) dX9_givenTo_137 rfl (v := 3) rfl ?_
    refine P_idiv (pc' := 139) dX9_givenTo_138 rfl (by decide) ?_
    refine P_iadd (pc' := 140) dX9_givenTo_139 rfl ?_
    refine P_aload0 (pc' := 141) dX9_givenTo_140 rfl ?_
    refine P_getr (pc' := 144) dX9_givenTo_141 rfl fl_X9_9 rfl (l_55 hsh) (t_55 hsh) (q_55_0 hsh) ?_
    refine P_iconst (pc' := 145) dX9_givenTo_144 rfl (v := 4) rfl ?_
    refine P_iald (pc' := 146) dX9_givenTo_145 rfl (l_56 hsh) (t_56 hsh) (j := 4) rfl (by decide) (by decide) ?_
    refine P_as e4 ?_
    refine P_iconst (pc' := 147) dX9_givenTo_146 rfl (v := 1) rfl ?_
    refine P_icmp_ne (tgt := 154) (pc' := 150) dX9_givenTo_147 rfl rfl (fun h147 => ?_) (fun h147 => ?_)
    · refine P_iconst (pc' := 155) dX9_givenTo_154 rfl (v := 1) rfl ?_
      refine P_idiv (pc' := 156) dX9_givenTo_155 rfl (by decide) ?_
      refine P_iret dX9_givenTo_156 ?_
      first | (rw [show kG2 3 (nI p) m (nI g) q = (nI p + m / 3) / 2 from by show (nI p + m / 3) / (if q = 1 then 2 else 1) = _; rw [if_pos h147]] at hQ; exact hQ) | (rw [show kG2 3 (nI p) m (nI g) q = (nI p + m / 3) / 1 from by show (nI p + m / 3) / (if q = 1 then 2 else 1) = _; rw [if_neg h147]] at hQ; exact hQ)
    · refine P_iconst (pc' := 151) dX9_givenTo_150 rfl (v := 2) rfl ?_
      refine P_goto (tgt := 155) dX9_givenTo_151 rfl ?_
      refine P_idiv (pc' := 156) dX9_givenTo_155 rfl (by decide) ?_
      refine P_iret dX9_givenTo_156 ?_
      first | (rw [show kG2 3 (nI p) m (nI g) q = (nI p + m / 3) / 2 from by show (nI p + m / 3) / (if q = 1 then 2 else 1) = _; rw [if_pos h147]] at hQ; exact hQ) | (rw [show kG2 3 (nI p) m (nI g) q = (nI p + m / 3) / 1 from by show (nI p + m / 3) / (if q = 1 then 2 else 1) = _; rw [if_neg h147]] at hQ; exact hQ)
  · skip
    refine P_tabIn (tgt := 157) dX9_givenTo_78 (by decide) (by decide) rfl rfl ?_
    refine P_iload3 (pc' := 158) dX9_givenTo_157 rfl ?_
    refine P_iconst (pc' := 159) dX9_givenTo_158 rfl (v := 5) rfl ?_
    refine P_icmp_ge (tgt := 167) (pc' := 162) dX9_givenTo_159 rfl rfl (fun h159 => ?_) (fun h159 => ?_)
    · refine P_iload3 (pc' := 168) dX9_givenTo_167 rfl ?_
      refine P_bipush (pc' := 170) dX9_givenTo_168 rfl (v := 8) rfl ?_
      refine P_icmp_ge (tgt := 180) (pc' := 173) dX9_givenTo_170 rfl rfl (fun h170 => ?_) (fun h170 => ?_)
      · refine P_iconst (pc' := 181) dX9_givenTo_180 rfl (v := 0) rfl ?_
        refine P_iret dX9_givenTo_181 ?_
        have e : kG2 4 (nI p) m (nI g) q = (if 5 ≤ m then (if 8 ≤ m then 0 else 2 * nI p) else nI p) := rfl
        rw [e] at hQ
        first
          | (rw [if_neg h159] at hQ; exact hQ)
          | (rw [if_pos h159, if_pos h170] at hQ; exact hQ)
          | (rw [if_pos h159, if_neg h170] at hQ; exact hQ)
      · refine P_iconst (pc' := 174) dX9_givenTo_173 rfl (v := 2) rfl ?_
        refine P_iload6 (pc' := 176) dX9_givenTo_174 rfl ?_
        refine P_imul (pc' := 177) dX9_givenTo_176 rfl ?_
        refine P_goto (tgt := 181) dX9_givenTo_177 rfl ?_
        refine P_iret dX9_givenTo_181 ?_
        have e : kG2 4 (nI p) m (nI g) q = (if 5 ≤ m then (if 8 ≤ m then 0 else 2 * nI p) else nI p) := rfl
        rw [e] at hQ
        first
          | (rw [if_neg h159] at hQ; exact hQ)
          | (rw [if_pos h159, if_pos h170] at hQ; exact hQ)
          | (rw [if_pos h159, if_neg h170] at hQ; exact hQ)
    · refine P_iload6 (pc' := 164) dX9_givenTo_162 rfl ?_
      refine P_goto (tgt := 181) dX9_givenTo_164 rfl ?_
      refine P_iret dX9_givenTo_181 ?_
      have e : kG2 4 (nI p) m (nI g) q = (if 5 ≤ m then (if 8 ≤ m then 0 else 2 * nI p) else nI p) := rfl
      rw [e] at hQ
      first
        | (rw [if_neg h159] at hQ; exact hQ)
        | (rw [if_pos h159, if_pos h170] at hQ; exact hQ)
        | (rw [if_pos h159, if_neg h170] at hQ; exact hQ)
  · skip
    refine P_tabIn (tgt := 182) dX9_givenTo_78 (by decide) (by decide) rfl rfl ?_
    refine P_iload4 (pc' := 184) dX9_givenTo_182 rfl ?_
    refine P_iconst (pc' := 185) dX9_givenTo_184 rfl (v := 3) rfl ?_
    refine P_icmp_lt (tgt := 193) (pc' := 188) dX9_givenTo_185 rfl rfl (fun h185 => ?_) (fun h185 => ?_)
    · refine P_iconst (pc' := 194) dX9_givenTo_193 rfl (v := 0) rfl ?_
      refine P_goto (tgt := 201) dX9_givenTo_194 rfl ?_
      refine P_iret dX9_givenTo_201 ?_
      have e : kG2 5 (nI p) m (nI g) q = (if nI g < 3 then 0 else if nI p = 0 then 0 else nI p - 1) := rfl
      rw [e] at hQ
      first
        | (rw [if_pos h185] at hQ; exact hQ)
        | (rw [if_neg h185, if_pos h190] at hQ; exact hQ)
        | (rw [if_neg h185, if_neg h190] at hQ; exact hQ)
    · refine P_iload6 (pc' := 190) dX9_givenTo_188 rfl ?_
      refine P_if_ne (tgt := 197) (pc' := 193) dX9_givenTo_190 rfl rfl (fun h190 => ?_) (fun h190 => ?_)
      · refine P_iload6 (pc' := 199) dX9_givenTo_197 rfl ?_
        refine P_iconst (pc' := 200) dX9_givenTo_199 rfl (v := 1) rfl ?_
        refine P_isub (pc' := 201) dX9_givenTo_200 rfl ?_
        refine P_iret dX9_givenTo_201 ?_
        have e : kG2 5 (nI p) m (nI g) q = (if nI g < 3 then 0 else if nI p = 0 then 0 else nI p - 1) := rfl
        rw [e] at hQ
        first
          | (rw [if_pos h185] at hQ; exact hQ)
          | (rw [if_neg h185, if_pos h190] at hQ; exact hQ)
          | (rw [if_neg h185, if_neg h190] at hQ; exact hQ)
      · refine P_iconst (pc' := 194) dX9_givenTo_193 rfl (v := 0) rfl ?_
        refine P_goto (tgt := 201) dX9_givenTo_194 rfl ?_
        refine P_iret dX9_givenTo_201 ?_
        have e : kG2 5 (nI p) m (nI g) q = (if nI g < 3 then 0 else if nI p = 0 then 0 else nI p - 1) := rfl
        rw [e] at hQ
        first
          | (rw [if_pos h185] at hQ; exact hQ)
          | (rw [if_neg h185, if_pos h190] at hQ; exact hQ)
          | (rw [if_neg h185, if_neg h190] at hQ; exact hQ)
theorem c_X9_givenTo {G : GX} {S : Shp} {I : Mem} {d b c g n tn : Nat} {m : Int32} {tx : Nat → Tx} (hsh : SHP S) (hr : RT I tn tx) (hrd : RTd tn tx) (hw : WA (aR I) n) (hb : b < 9) (c1 : 1 ≤ c) (c9 : c ≤ 9) (g9 : g ≤ 9) (hd : 2 ≤ d) : PM G yX9_givenTo cX9_givenTo 7 (some .int) d 0 0 [.ref 55, .int (nI b), .int (nI c), .int m, .int (nI g)] S I (fun r S' I' => r = some (.int (aGift (alX tn tx) (aR I) b c m g)) ∧ S = S' ∧ PsR I (aR I) I') := by
  refine PM.of (ls := [some (.ref 55), some (.int (nI b)), some (.int (nI c)), some (.int m), some (.int (nI g)), none, none]) (by decide) rfl (Nat.le_of_ble_eq_true rfl) rfl ?_
  show PW G RX9 "givenTo" _ _ _ _ _ _ _ _ _ _ _ _
  obtain ⟨-, -, s, s20, hs⟩ := hw.2.2.2.2 b hb
  have hs2 : ∀ J : Mem, J 56 = I 56 → J 56 (16 + 5 * b + 2) = nI s := fun J hJ => by rw [hJ, aR_rd I (by omega), show 16 + 5 * b + 2 = 18 + 5 * b by omega]; exact hs
  obtain ⟨p, hp, ep⟩ := alX_n tn tx c g s c1 c9 g9 s20
  have eg : aGift (alX tn tx) (aR I) b c m g = kGift (aR I (16 + 5 * b)) (nI p) m (nI g) (aR I 4) := by
    unfold aGift
    rw [hs, ep]
  rw [eg]
  have hrJ : ∀ J : Mem, J 56 = I 56 → RT J tn tx := fun J hJ => hr.mv (by rw [hJ]) (fun i _ => by rw [hJ])
  refine P_aload0 (pc' := 1) dX9_givenTo_0 rfl ?_
  refine P_iconst (pc' := 2) dX9_givenTo_1 rfl (v := nI 0) rfl ?_
  refine P_callV1 (pc' := 5) dX9_givenTo_2 rfl lk_X9_104 (l_55 hsh) (t_55 hsh) (c_X9_counts (k := 0) (d := 0) hsh hr (by decide)) (by omega) (Nat.le_of_ble_eq_true rfl) (fun r S' I' hq => ?_)
  obtain ⟨rfl, rfl, rfl⟩ := hq
  cases hL : lastK tx 0 tn with
  | none =>
    rw [alX_none hL] at ep
    refine P_istore5 (pc' := 7) dX9_givenTo_5 rfl (by decide) rfl ?_
    refine P_aload0 (pc' := 8) dX9_givenTo_7 rfl ?_
    refine P_getr (pc' := 11) dX9_givenTo_8 rfl fl_X9_45 rfl (l_55 hsh) (t_55 hsh) (q_55_22 hsh) ?_
    refine P_iconst (pc' := 12) dX9_givenTo_11 rfl (v := 0) rfl ?_
    refine P_iload2 (pc' := 13) dX9_givenTo_12 rfl ?_
    refine P_iast (pc' := 14) dX9_givenTo_13 rfl (l_67 hsh) (t_67 hsh) (j := 0) rfl (by decide) (by decide) ?_
    refine P_aload0 (pc' := 15) dX9_givenTo_14 rfl ?_
    refine P_getr (pc' := 18) dX9_givenTo_15 rfl fl_X9_45 rfl (l_55 hsh) (t_55 hsh) (q_55_22 hsh) ?_
    refine P_iconst (pc' := 19) dX9_givenTo_18 rfl (v := 1) rfl ?_
    refine P_iload4 (pc' := 21) dX9_givenTo_19 rfl ?_
    refine P_iast (pc' := 22) dX9_givenTo_21 rfl (l_67 hsh) (t_67 hsh) (j := 1) rfl (by decide) (by decide) ?_
    refine P_aload0 (pc' := 23) dX9_givenTo_22 rfl ?_
    refine P_getr (pc' := 26) dX9_givenTo_23 rfl fl_X9_45 rfl (l_55 hsh) (t_55 hsh) (q_55_22 hsh) ?_
    refine P_iconst (pc' := 27) dX9_givenTo_26 rfl (v := 2) rfl ?_
    refine P_aload0 (pc' := 28) dX9_givenTo_27 rfl ?_
    refine P_iload1 (pc' := 29) dX9_givenTo_28 rfl ?_
    
    refine P_iconst (pc' := 30) dX9_givenTo_29 rfl (v := 2) rfl ?_
    refine P_callV2 (pc' := 33) dX9_givenTo_30 rfl lk_X9_89 (l_55 hsh) (t_55 hsh) (c_X9_of (k := 2) (d := 0) hsh hb (by decide)) (by omega) (Nat.le_of_ble_eq_true rfl) (fun r S' I' hq => ?_); obtain ⟨rfl, rfl, rfl⟩ := hq
    refine P_as (y := nI s) (hs2 _ (by rw [u2_row (by decide), u2_row (by decide)])) ?_
    refine P_iast (pc' := 34) dX9_givenTo_33 rfl (l_67 hsh) (t_67 hsh) (j := 2) rfl (by decide) (by decide) ?_
    refine P_iload5 (pc' := 36) dX9_givenTo_34 rfl ?_
    refine P_if_ge (tgt := 58) (pc' := 39) dX9_givenTo_36 rfl rfl (fun h36 => ?_) (fun h36 => ?_)
    · exact absurd h36 (by decide)
    · refine P_iload2 (pc' := 40) dX9_givenTo_39 rfl ?_
      refine P_iload4 (pc' := 42) dX9_givenTo_40 rfl ?_
      refine P_imul (pc' := 43) dX9_givenTo_42 rfl ?_
      refine P_bipush (pc' := 45) dX9_givenTo_43 rfl (v := 9) rfl ?_
      refine P_idiv (pc' := 46) dX9_givenTo_45 rfl (by decide) ?_
      refine P_aload0 (pc' := 47) dX9_givenTo_46 rfl ?_
      refine P_iload1 (pc' := 48) dX9_givenTo_47 rfl ?_
      refine P_iconst (pc' := 49) dX9_givenTo_48 rfl (v := 2) rfl ?_
      refine P_callV2 (pc' := 52) dX9_givenTo_49 rfl lk_X9_89 (l_55 hsh) (t_55 hsh) (c_X9_of (k := 2) (d := 0) hsh hb (by decide)) (by omega) (Nat.le_of_ble_eq_true rfl) (fun r S' I' hq => ?_); obtain ⟨rfl, rfl, rfl⟩ := hq
      refine P_as (y := nI s) (hs2 _ (by rw [u2_row (by decide), u2_row (by decide), u2_row (by decide)])) ?_
      refine P_iconst (pc' := 53) dX9_givenTo_52 rfl (v := 5) rfl ?_
      refine P_idiv (pc' := 54) dX9_givenTo_53 rfl (by decide) ?_
      refine P_iadd (pc' := 55) dX9_givenTo_54 rfl ?_
      refine P_goto (tgt := 70) dX9_givenTo_55 rfl ?_
      refine P_as (y := nI p) ep ?_
      exact k_X9_givenTo hsh (aR_o (by rw [u2_row (by decide), u2_row (by decide), u2_row (by decide)])) hw hb hp rfl (by omega) ⟨rfl, rfl, PsR.scr (fun x a b => by rw [u2_row b, u2_row b, u2_row b])⟩
  | some t =>
    obtain ⟨ht, -⟩ := lastK_lt hL
    rw [alX_some hL] at ep
    have hev : ∀ J : Mem, J 67 0 = nI c → J 67 1 = nI g → J 67 2 = nI s → (woG (J 67) (tx t).2.2.2 (tx t).2.1 0 (0, J 66)).2 0 = evT (tx t) (nI c) (nI g) (nI s) := by
      intro J a0 a1 a2
      refine woG_ind (fun j hj => ?_) _ 0 0 _ _ (hr.2.2 t ht).2.2.2.2.2 (fun j hj => by omega) 0 (hrd t ht)
      have : j = 0 ∨ j = 1 ∨ j = 2 := by omega
      rcases this with rfl | rfl | rfl
      · exact a0
      · exact a1
      · exact a2
    refine P_istore5 (pc' := 7) dX9_givenTo_5 rfl (by decide) rfl ?_
    refine P_aload0 (pc' := 8) dX9_givenTo_7 rfl ?_
    refine P_getr (pc' := 11) dX9_givenTo_8 rfl fl_X9_45 rfl (l_55 hsh) (t_55 hsh) (q_55_22 hsh) ?_
    refine P_iconst (pc' := 12) dX9_givenTo_11 rfl (v := 0) rfl ?_
    refine P_iload2 (pc' := 13) dX9_givenTo_12 rfl ?_
    refine P_iast (pc' := 14) dX9_givenTo_13 rfl (l_67 hsh) (t_67 hsh) (j := 0) rfl (by decide) (by decide) ?_
    refine P_aload0 (pc' := 15) dX9_givenTo_14 rfl ?_
    refine P_getr (pc' := 18) dX9_givenTo_15 rfl fl_X9_45 rfl (l_55 hsh) (t_55 hsh) (q_55_22 hsh) ?_
    refine P_iconst (pc' := 19) dX9_givenTo_18 rfl (v := 1) rfl ?_
    refine P_iload4 (pc' := 21) dX9_givenTo_19 rfl ?_
    refine P_iast (pc' := 22) dX9_givenTo_21 rfl (l_67 hsh) (t_67 hsh) (j := 1) rfl (by decide) (by decide) ?_
    refine P_aload0 (pc' := 23) dX9_givenTo_22 rfl ?_
    refine P_getr (pc' := 26) dX9_givenTo_23 rfl fl_X9_45 rfl (l_55 hsh) (t_55 hsh) (q_55_22 hsh) ?_
    refine P_iconst (pc' := 27) dX9_givenTo_26 rfl (v := 2) rfl ?_
    refine P_aload0 (pc' := 28) dX9_givenTo_27 rfl ?_
    refine P_iload1 (pc' := 29) dX9_givenTo_28 rfl ?_
    refine P_iconst (pc' := 30) dX9_givenTo_29 rfl (v := 2) rfl ?_
    refine P_callV2 (pc' := 33) dX9_givenTo_30 rfl lk_X9_89 (l_55 hsh) (t_55 hsh) (c_X9_of (k := 2) (d := 0) hsh hb (by decide)) (by omega) (Nat.le_of_ble_eq_true rfl) (fun r S' I' hq => ?_); obtain ⟨rfl, rfl, rfl⟩ := hq
    refine P_as (y := nI s) (hs2 _ (by rw [u2_row (by decide), u2_row (by decide)])) ?_
    refine P_iast (pc' := 34) dX9_givenTo_33 rfl (l_67 hsh) (t_67 hsh) (j := 2) rfl (by decide) (by decide) ?_
    refine P_iload5 (pc' := 36) dX9_givenTo_34 rfl ?_
    refine P_if_ge (tgt := 58) (pc' := 39) dX9_givenTo_36 rfl rfl (fun h36 => ?_) (fun h36 => ?_)
    · refine P_aload0 (pc' := 59) dX9_givenTo_58 rfl ?_
      refine P_iload5 (pc' := 61) dX9_givenTo_59 rfl ?_
      refine P_callV1 (pc' := 64) dX9_givenTo_61 rfl lk_X9_107 (l_55 hsh) (t_55 hsh) (c_X9_worksOut (t := t) (d := 1) hsh (hrJ _ (by rw [u2_row (by decide), u2_row (by decide), u2_row (by decide)])) ht (by omega)) (by omega) (Nat.le_of_ble_eq_true rfl) (fun r S' I' hq => ?_)
      obtain ⟨rfl, rfl, rfl⟩ := hq
      refine P_iconst (pc' := 65) dX9_givenTo_64 rfl (v := 0) rfl ?_
      refine P_bipush (pc' := 67) dX9_givenTo_65 rfl (v := 99) rfl ?_
      refine P_callS3 (pc' := 70) dX9_givenTo_67 rfl lk_X9_110 (c_X9_within (d := 0) _ 0 99) (by omega) (Nat.le_of_ble_eq_true rfl) (fun r S' I' hq => ?_)
      obtain ⟨rfl, rfl, rfl⟩ := hq
      refine P_as (y := nI p) (by rw [hev _ (by rw [u2_k (by decide), u2_k (by decide), u2_s]) (by rw [u2_k (by decide), u2_s]) (by rw [u2_s])]; exact ep) ?_
      exact k_X9_givenTo hsh (aR_o (by rw [sR_n (by decide), u2_row (by decide), u2_row (by decide), u2_row (by decide)])) hw hb hp rfl (by omega) ⟨rfl, rfl, PsR.scr (fun x a b => by rw [sR_n a, u2_row b, u2_row b, u2_row b])⟩
    · exact absurd (nI_pos' (n := t) (by have := hr.1; omega)) h36

