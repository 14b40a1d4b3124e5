def cv (f t i : Nat) : Int32 := if f < t then nI f + nI i else nI f - nI i
theorem cv_all {f t i : Nat} (hf : f ≤ 7) (ht : t ≤ 7) (hi : i < pn f t) : (¬ cv f t i = nI t + (if f < t then 1 else -1)) ∧ cv f t i = pth f t i ∧ cv f t i + (if f < t then 1 else -1) = cv f t (i + 1) := by
  have key : ∀ f, f ≤ 7 → ∀ t, t ≤ 7 → ∀ i, i < 8 → i < pn f t → (¬ cv f t i = nI t + (if f < t then 1 else -1)) ∧ cv f t i = pth f t i ∧ cv f t i + (if f < t then 1 else -1) = cv f t (i + 1) := by decide +kernel
  exact key f hf t ht i (by have : pn f t ≤ 8 := by { unfold pn; split <;> omega }; omega) hi
theorem cv_end {f t : Nat} (hf : f ≤ 7) (ht : t ≤ 7) : cv f t (pn f t) = nI t + (if f < t then 1 else -1) := by
  have key : ∀ f, f ≤ 7 → ∀ t, t ≤ 7 → cv f t (pn f t) = nI t + (if f < t then 1 else -1) := by decide +kernel
  exact key f hf t ht
theorem lp_X9_passes_out {G : GX} {S : Shp} {I0 : Mem} {d f t c n tn : Nat} {m : Int32} {tx : Nat → Tx} {Q : Option Value → Shp → Mem → Prop} (hsh : SHP S) (hrd : RTd tn tx) (f7 : f ≤ 7) (t7 : t ≤ 7) (c1 : 1 ≤ c) (c9 : c ≤ 9) (hn : n ≤ 9) (hd : 3 ≤ d) : ∀ (k i : Nat) (g : Nat) (I : Mem) (x8 x9 : Option Value), i + k = pn f t → g ≤ 9 → RT I tn tx → WA (aR I) n → PsR I0 (aR I) I →
    (∀ (J : Mem), aR J = (aOut (alX tn tx) c m n (pth f t) k i (g, aR I)).2 → PsR I0 (aR J) J → Q none S J) →
    PW G RX9 "passes" cX9_passes 10 none d 0 0 Q 19 [some (.ref 55), some (.int (nI f)), some (.int (nI t)), some (.int (nI c)), some (.int m), some (.int (nI g)), some (.int (if f < t then 1 else -1)), some (.int (cv f t i)), x8, x9] [] S I := by
  intro k
  induction k with
  | zero =>
    intro i g I x8 x9 hi g9 hr hw hp hQ
    have hi : i = pn f t := by omega
    subst hi
    refine P_iload7 (pc' := 21) dX9_passes_19 rfl ?_
    refine P_iload2 (pc' := 22) dX9_passes_21 rfl ?_
    refine P_iload6 (pc' := 24) dX9_passes_22 rfl ?_
    refine P_iadd (pc' := 25) dX9_passes_24 rfl ?_
    refine P_icmp_eq (tgt := 137) (pc' := 28) dX9_passes_25 rfl rfl (fun h25 => ?_) (fun h25 => ?_)
    · refine P_vret dX9_passes_137 ?_
      exact hQ I rfl hp
    · exact absurd (cv_end f7 t7) h25
  | succ k ih =>
    intro i g I x8 x9 hi g9 hr hw hp hQ
    obtain ⟨q1, q2, q3⟩ := cv_all (i := i) f7 t7 (by omega)
    refine P_iload7 (pc' := 21) dX9_passes_19 rfl ?_
    refine P_iload2 (pc' := 22) dX9_passes_21 rfl ?_
    refine P_iload6 (pc' := 24) dX9_passes_22 rfl ?_
    refine P_iadd (pc' := 25) dX9_passes_24 rfl ?_
    refine P_icmp_eq (tgt := 137) (pc' := 28) dX9_passes_25 rfl rfl (fun h25 => ?_) (fun h25 => ?_)
    · exact absurd h25 q1
    · refine P_iconst (pc' := 29) dX9_passes_28 rfl (v := 0) rfl ?_
      refine P_istore8 (pc' := 31) dX9_passes_29 rfl (by decide) rfl ?_
      refine lp_X9_passes_in hsh hrd c1 c9 hn hd n 0 g I _ (by omega) g9 hr hw hp (fun g' J x9 a1 a2 a3 a4 a5 => ?_)
      refine P_iload7 (pc' := 129) dX9_passes_127 rfl ?_
      refine P_iload6 (pc' := 131) dX9_passes_129 rfl ?_
      refine P_iadd (pc' := 132) dX9_passes_131 rfl ?_
      refine P_as q3 ?_
      refine P_istore7 (pc' := 134) dX9_passes_132 rfl (by decide) rfl ?_
      refine P_goto (tgt := 19) dX9_passes_134 rfl ?_
      refine ih (i + 1) g' J _ _ (by omega) a1 a2 a3 a5 (fun K b2 b3 => hQ K ?_ b3)
      rw [b2, a4, q2]
      rfl
theorem c_X9_passes {G : GX} {S : Shp} {I : Mem} {d f t c n tn : Nat} {m : Int32} {tx : Nat → Tx} (hsh : SHP S) (hr : RT I tn tx) (hrd : RTd tn tx) (hw : WA (aR I) n) (f7 : f ≤ 7) (t7 : t ≤ 7) (c1 : 1 ≤ c) (c9 : c ≤ 9) (hd : 3 ≤ d) : PM G yX9_passes cX9_passes 10 none d 0 0 [.ref 55, .int (nI f), .int (nI t), .int (nI c), .int m] S I (fun r S' I' => r = none ∧ S = S' ∧ PsR I (aWalk (alX tn tx) f t c m n (aR I)) I') := by
  refine PM.of (ls := [some (.ref 55), some (.int (nI f)), some (.int (nI t)), some (.int (nI c)), some (.int m), none, none, none, none, none]) (by decide) rfl (Nat.le_of_ble_eq_true rfl) rfl ?_
  show PW G RX9 "passes" _ _ _ _ _ _ _ _ _ _ _ _
  have key : PW G RX9 "passes" cX9_passes 10 none d 0 0 (fun r S' I' => r = none ∧ S = S' ∧ PsR I (aWalk (alX tn tx) f t c m n (aR I)) I') 14 [some (.ref 55), some (.int (nI f)), some (.int (nI t)), some (.int (nI c)), some (.int m), some (.int (nI 9)), none, none, none, none] [.int (if f < t then 1 else -1)] S I := by
    have e0 : nI f = cv f t 0 := by
      have key : ∀ f, f ≤ 7 → ∀ t, t ≤ 7 → nI f = cv f t 0 := by decide +kernel
      exact key f f7 t t7
    refine P_istore6 (pc' := 16) dX9_passes_14 rfl (by decide) rfl ?_
    refine P_iload1 (pc' := 17) dX9_passes_16 rfl ?_
    refine P_as e0 ?_
    refine P_istore7 (pc' := 19) dX9_passes_17 rfl (by decide) rfl ?_
    exact lp_X9_passes_out (I0 := I) hsh hrd f7 t7 c1 c9 hw.2.1 hd (pn f t) 0 9 I _ _ (by omega) (by decide) hr hw PsR.self (fun J b2 b3 => ⟨rfl, rfl, by rw [b2] at b3; exact b3⟩)
  refine P_bipush (pc' := 2) dX9_passes_0 rfl (v := 9) rfl ?_
  refine P_istore5 (pc' := 4) dX9_passes_2 rfl (by decide) rfl ?_
  refine P_iload1 (pc' := 5) dX9_passes_4 rfl ?_
  refine P_iload2 (pc' := 6) dX9_passes_5 rfl ?_
  refine P_icmp_ge (tgt := 13) (pc' := 9) dX9_passes_6 rfl rfl (fun h6 => ?_) (fun h6 => ?_)
  · refine P_iconst (pc' := 14) dX9_passes_13 rfl (v := (-1)) rfl ?_
    first | (rw [if_pos ((nI_ltI (by omega) (by omega)).mp (Int32.not_le.mp h6))] at key; exact key) | (rw [if_neg (Nat.not_lt.mpr ((nI_leI (by omega) (by omega)).mp h6))] at key; exact key)
  · refine P_iconst (pc' := 10) dX9_passes_9 rfl (v := 1) rfl ?_
    refine P_goto (tgt := 14) dX9_passes_10 rfl ?_
    first | (rw [if_pos ((nI_ltI (by omega) (by omega)).mp (Int32.not_le.mp h6))] at key; exact key) | (rw [if_neg (Nat.not_lt.mpr ((nI_leI (by omega) (by omega)).mp h6))] at key; exact key)
/-- from the funeral on -/
theorem k_X9_hour {G : GX} {S : Shp} {I0 I : Mem} {d n tn : Nat} {tx : Nat → Tx} {B : Nat → Int32} {x1 x2 x3 x4 : Option Value} (hsh : SHP S) (hrd : RTd tn tx) (hd : 4 ≤ d) (hr : RT I tn tx) (hw : WA (aR I) n) (hp : PsR I0 (aR I) I) (hB : aEnd (aFun (alX tn tx) n (aR I)) = B) : PW G RX9 "hour" cX9_hour 5 none d 0 0 (fun r S' I' => r = none ∧ S = S' ∧ PsR I0 B I') 163 [some (.ref 55), x1, x2, x3, x4] [] S I := by
  obtain ⟨f, f8, hf⟩ := hw.2.2.2.1
  have hf5 : I 56 5 = nI f := by rw [aR_rd I (by decide)]; exact hf
  have fin : ∀ J, PsR I0 (aFun (alX tn tx) n (aR I)) J → PW G RX9 "hour" cX9_hour 5 none d 0 0 (fun r S' I' => r = none ∧ S = S' ∧ PsR I0 B I') 194 [some (.ref 55), x1, x2, x3, x4] [] S J := by
    intro J hJ
    refine P_aload0 (pc' := 195) dX9_hour_194 rfl ?_
    refine P_getr (pc' := 198) dX9_hour_195 rfl fl_X9_9 rfl (l_55 hsh) (t_55 hsh) (q_55_0 hsh) ?_
    refine P_iconst (pc' := 199) dX9_hour_198 rfl (v := 2) rfl ?_
    refine P_dup2 (pc' := 200) dX9_hour_199 rfl rfl rfl ?_
    refine P_iald (pc' := 201) dX9_hour_200 rfl (l_56 hsh) (t_56 hsh) (j := 2) rfl (by decide) (by decide) ?_
    refine P_iconst (pc' := 202) dX9_hour_201 rfl (v := 1) rfl ?_
    refine P_iadd (pc' := 203) dX9_hour_202 rfl ?_
    refine P_iast (pc' := 204) dX9_hour_203 rfl (l_56 hsh) (t_56 hsh) (j := 2) rfl (by decide) (by decide) ?_
    refine P_vret dX9_hour_204 ?_
    have p1 := PsR.put (I := J) (i := 2) (v := J 56 2 + 1) (by decide)
    refine ⟨rfl, rfl, ?_⟩
    have e : aEnd (aFun (alX tn tx) n (aR I)) = upd (aR J) 2 (J 56 2 + 1) := by
      rw [← hJ.1, aR_rd J (by decide)]
      rfl
    rw [← hB, e]
    exact hJ.tr p1
  refine P_aload0 (pc' := 164) dX9_hour_163 rfl ?_
  refine P_getr (pc' := 167) dX9_hour_164 rfl fl_X9_9 rfl (l_55 hsh) (t_55 hsh) (q_55_0 hsh) ?_
  refine P_iconst (pc' := 168) dX9_hour_167 rfl (v := 5) rfl ?_
  refine P_iald (pc' := 169) dX9_hour_168 rfl (l_56 hsh) (t_56 hsh) (j := 5) rfl (by decide) (by decide) ?_
  refine P_as hf5 ?_
  refine P_bipush (pc' := 171) dX9_hour_169 rfl (v := 8) rfl ?_
  refine P_icmp_eq (tgt := 194) (pc' := 174) dX9_hour_171 rfl rfl (fun h171 => ?_) (fun h171 => ?_)
  · refine fin I ?_
    have q : aFun (alX tn tx) n (aR I) = aR I := if_pos (by rw [hf]; exact h171)
    rw [q]
    exact hp
  · have hf7 : f ≤ 7 := by
      rcases Nat.lt_or_ge f 8 with z | z
      · omega
      · exact absurd (by rw [show f = 8 by omega]; rfl) h171
    refine P_aload0 (pc' := 175) dX9_hour_174 rfl ?_
    refine P_aload0 (pc' := 176) dX9_hour_175 rfl ?_
    refine P_getr (pc' := 179) dX9_hour_176 rfl fl_X9_9 rfl (l_55 hsh) (t_55 hsh) (q_55_0 hsh) ?_
    refine P_iconst (pc' := 180) dX9_hour_179 rfl (v := 5) rfl ?_
    refine P_iald (pc' := 181) dX9_hour_180 rfl (l_56 hsh) (t_56 hsh) (j := 5) rfl (by decide) (by decide) ?_
    refine P_as hf5 ?_
    refine P_aload0 (pc' := 182) dX9_hour_181 rfl ?_
    refine P_getr (pc' := 185) dX9_hour_182 rfl fl_X9_9 rfl (l_55 hsh) (t_55 hsh) (q_55_0 hsh) ?_
    refine P_iconst (pc' := 186) dX9_hour_185 rfl (v := 5) rfl ?_
    refine P_iald (pc' := 187) dX9_hour_186 rfl (l_56 hsh) (t_56 hsh) (j := 5) rfl (by decide) (by decide) ?_
    refine P_as hf5 ?_
    refine P_bipush (pc' := 189) dX9_hour_187 rfl (v := nI 9) rfl ?_
    refine P_bipush (pc' := 191) dX9_hour_189 rfl (v := 9) rfl ?_
    refine P_callV4 (pc' := 194) dX9_hour_191 rfl lk_X9_133 (l_55 hsh) (t_55 hsh) (c_X9_passes (d := 3) hsh hr hrd hw hf7 hf7 (by decide) (by decide) (by omega)) (by omega) (Nat.le_of_ble_eq_true rfl) (fun r S' I' hq => ?_)
    obtain ⟨rfl, rfl, hp2⟩ := hq
    refine fin I' ?_
    have q : aFun (alX tn tx) n (aR I) = aWalk (alX tn tx) f f 9 9 n (aR I) := by
      unfold aFun
      rw [if_neg (by rw [hf]; exact h171), hf, nI_clamp (by omega)]
    rw [q]
    exact hp.tr hp2
theorem aWalk_7 {al : Int32 → Int32 → Int32 → Int32} {f t c : Nat} {m : Int32} {n : Nat} {A : Nat → Int32} : aWalk al f t c m n A 7 = A 7 := aWalk_ne (fun b => ⟨by omega, by omega⟩)
theorem aWalk_4 {al : Int32 → Int32 → Int32 → Int32} {f t c : Nat} {m : Int32} {n : Nat} {A : Nat → Int32} : aWalk al f t c m n A 4 = A 4 := aWalk_ne (fun b => ⟨by omega, by omega⟩)
theorem aPass_7 {al : Int32 → Int32 → Int32 → Int32} {n : Nat} {A : Nat → Int32} : aPass al n A 7 = A 7 := by
  unfold aPass
  rw [aWalk_7, upd_n (by decide)]
theorem lp_X9_hour {G : GX} {S : Shp} {I0 : Mem} {d n tn : Nat} {tx : Nat → Tx} {B : Nat → Int32} (hsh : SHP S) (hrd : RTd tn tx) (hd : 4 ≤ d) : ∀ (k i : Nat) (I : Mem) (x2 x3 x4 : Option Value), i + k = 3 → RT I tn tx → WA (aR I) n → PsR I0 (aR I) I → aEnd (aFun (alX tn tx) n (aPsN (alX tn tx) n k (aR I))) = B → PW G RX9 "hour" cX9_hour 5 none d 0 0 (fun r S' I' => r = none ∧ S = S' ∧ PsR I0 B I') 110 [some (.ref 55), some (.int (nI i)), x2, x3, x4] [] S I := by
  intro k
  induction k with
  | zero =>
    intro i I x2 x3 x4 hi hr hw hp hB
    refine P_iload1 (pc' := 111) dX9_hour_110 rfl ?_
    refine P_iconst (pc' := 112) dX9_hour_111 rfl (v := 3) rfl ?_
    refine P_icmp_ge (tgt := 163) (pc' := 115) dX9_hour_112 rfl rfl (fun h112 => ?_) (fun h112 => ?_)
    · exact k_X9_hour hsh hrd hd hr hw hp hB
    · exact absurd (nI_le (a := 3) (b := i) (by omega) (by omega)) h112
  | succ k ih =>
    intro i I x2 x3 x4 hi hr hw hp hB
    have ei : nI i + 1 = nI (i + 1) := nI_1 i
    have hp4 := PsR.put (I := I) (i := 0) (v := zn (zn (zn (zn (I 56 0))))) (by decide)
    refine P_iload1 (pc' := 111) dX9_hour_110 rfl ?_
    refine P_iconst (pc' := 112) dX9_hour_111 rfl (v := 3) rfl ?_
    refine P_icmp_ge (tgt := 163) (pc' := 115) dX9_hour_112 rfl rfl (fun h112 => ?_) (fun h112 => ?_)
    · exact absurd h112 (nI_ge (a := i) (b := 3) (by omega) (by omega))
    · refine P_aload0 (pc' := 116) dX9_hour_115 rfl ?_
      refine P_callV0 (pc' := 119) dX9_hour_116 rfl lk_X9_129 (l_55 hsh) (t_55 hsh) (c_X9_draw (d := 0) hsh) (by omega) (Nat.le_of_ble_eq_true rfl) (fun r S' I' hq => ?_)
      obtain ⟨rfl, rfl, rfl⟩ := hq
      refine P_bipush (pc' := 121) dX9_hour_119 rfl (v := 8) rfl ?_
      refine P_irem (pc' := 122) dX9_hour_121 rfl (by decide) ?_
      refine P_as (y := nI (dz (zn (I 56 0)) % 8)) (rm_n _ (by decide) (by decide)) ?_
      refine P_istore2 (pc' := 123) dX9_hour_122 rfl (by decide) rfl ?_
      refine P_aload0 (pc' := 124) dX9_hour_123 rfl ?_
      refine P_callV0 (pc' := 127) dX9_hour_124 rfl lk_X9_129 (l_55 hsh) (t_55 hsh) (c_rdraw2 (d := 0) hsh) (by omega) (Nat.le_of_ble_eq_true rfl) (fun r S' I' hq => ?_)
      obtain ⟨rfl, rfl, rfl⟩ := hq
      refine P_bipush (pc' := 129) dX9_hour_127 rfl (v := 8) rfl ?_
      refine P_irem (pc' := 130) dX9_hour_129 rfl (by decide) ?_
      refine P_as (y := nI (dz (zn (zn (I 56 0))) % 8)) (rm_n _ (by decide) (by decide)) ?_
      refine P_istore3 (pc' := 131) dX9_hour_130 rfl (by decide) rfl ?_
      refine P_iconst (pc' := 132) dX9_hour_131 rfl (v := 1) rfl ?_
      refine P_aload0 (pc' := 133) dX9_hour_132 rfl ?_
      refine P_callV0 (pc' := 136) dX9_hour_133 rfl lk_X9_129 (l_55 hsh) (t_55 hsh) (c_rdraw2 (d := 0) hsh) (by omega) (Nat.le_of_ble_eq_true rfl) (fun r S' I' hq => ?_)
      obtain ⟨rfl, rfl, rfl⟩ := hq
      refine P_bipush (pc' := 138) dX9_hour_136 rfl (v := 9) rfl ?_
      refine P_irem (pc' := 139) dX9_hour_138 rfl (by decide) ?_
      refine P_as (y := nI (dz (zn (zn (zn (I 56 0)))) % 9)) (rm_n _ (by decide) (by decide)) ?_
      refine P_iadd (pc' := 140) dX9_hour_139 rfl ?_
      refine P_as (y := nI (1 + dz (zn (zn (zn (I 56 0)))) % 9)) (nI_add 1 _) ?_
      refine P_istore4 (pc' := 142) dX9_hour_140 rfl (by decide) rfl ?_
      refine P_aload0 (pc' := 143) dX9_hour_142 rfl ?_
      refine P_iload2 (pc' := 144) dX9_hour_143 rfl ?_
      refine P_iload3 (pc' := 145) dX9_hour_144 rfl ?_
      refine P_iload4 (pc' := 147) dX9_hour_145 rfl ?_
      refine P_aload0 (pc' := 148) dX9_hour_147 rfl ?_
      refine P_callV0 (pc' := 151) dX9_hour_148 rfl lk_X9_129 (l_55 hsh) (t_55 hsh) (c_rdraw2 (d := 0) hsh) (by omega) (Nat.le_of_ble_eq_true rfl) (fun r S' I' hq => ?_)
      obtain ⟨rfl, rfl, rfl⟩ := hq
      refine P_bipush (pc' := 153) dX9_hour_151 rfl (v := 10) rfl ?_
      refine P_irem (pc' := 154) dX9_hour_153 rfl (by decide) ?_
      refine P_as (y := nI (dz (zn (zn (zn (zn (I 56 0))))) % 10)) (rm_n _ (by decide) (by decide)) ?_
      refine P_callV4 (pc' := 157) dX9_hour_154 rfl lk_X9_133 (l_55 hsh) (t_55 hsh) (c_X9_passes (n := n) (d := 3) hsh (hp4.rt (upd_n (by decide)) hr) hrd (by rw [hp4.1]; exact hw.z _) (m8 _) (m8 _) (by omega) (m9 _) (by omega)) (by omega) (Nat.le_of_ble_eq_true rfl) (fun r S' I' hq => ?_)
      obtain ⟨rfl, rfl, hp5⟩ := hq
      refine P_iinc1 (pc' := 160) dX9_hour_157 rfl ei (by decide) rfl ?_
      refine P_goto (tgt := 110) dX9_hour_160 rfl ?_
      rw [hp4.1] at hp5
      have e0 : aR I 0 = I 56 0 := rfl
      have eA : aR I' = aPass (alX tn tx) n (aR I) := by
        have h1 := hp5.1
        unfold aPass
        rw [e0]
        exact h1
      have h5p : PsR I0 (aR I') I' := by
        have h2 := (hp.tr hp4).tr hp5
        rw [hp5.1]
        exact h2
      refine ih (i + 1) I' _ _ _ (by omega) ((hp4.tr hp5).rt (by rw [aWalk_7, upd_n (by decide)]) hr) (by rw [eA]; exact aPass_wa hw) h5p ?_
      rw [eA, ← aPsN_s]
      exact hB

