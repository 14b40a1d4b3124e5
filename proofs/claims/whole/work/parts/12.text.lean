def jn (k x y : Int32) : Int32 :=
  if k = 124 then (if x = 0 ∧ y = 0 then 0 else 1) else if k = 38 then (if x = 0 ∨ y = 0 then 0 else 1) else if k = 60 then (if x < y then 1 else 0) else if k = 61 then (if x = y then 1 else 0) else if k = 62 then (if y < x then 1 else 0) else if k = 43 then x + y else if k = 45 then x - y else if k = 42 then x * y else if y = 0 then 0 else x / y
theorem c_X7_joined {G : GX} {S : Shp} {I : Mem} {d : Nat} (k x y : Int32) : PM G yX7_joined cX7_joined 3 (some .int) d 0 0 [.int k, .int x, .int y] S I (Rm S I (jn k x y)) := by
  refine PM.of (ls := [some (.int k), some (.int x), some (.int y)]) (by decide) rfl (Nat.le_of_ble_eq_true rfl) rfl ?_
  show PW G RX7 "joined" _ _ _ _ _ _ _ _ _ _ _ _
  by_cases k1 : k = 124
  · subst k1
    refine P_iload0 (pc' := 1) dX7_joined_0 rfl ?_
    refine P_look (tgt := 76) dX7_joined_1 (by decide) rfl rfl ?_
    refine P_iload1 (pc' := 77) dX7_joined_76 rfl ?_
    refine P_if_ne (tgt := 84) (pc' := 80) dX7_joined_77 rfl rfl (fun h77 => ?_) (fun h77 => ?_)
    · refine P_iconst (pc' := 85) dX7_joined_84 rfl (v := 1) rfl ?_
      refine P_goto (tgt := 89) dX7_joined_85 rfl ?_
      refine P_iret dX7_joined_89 ?_
      exact ⟨by simp [jn, *], rfl, rfl⟩
    · refine P_iload2 (pc' := 81) dX7_joined_80 rfl ?_
      refine P_if_eq (tgt := 88) (pc' := 84) dX7_joined_81 rfl rfl (fun h81 => ?_) (fun h81 => ?_)
      · refine P_iconst (pc' := 89) dX7_joined_88 rfl (v := 0) rfl ?_
        refine P_iret dX7_joined_89 ?_
        exact ⟨by simp [jn, *], rfl, rfl⟩
      · refine P_iconst (pc' := 85) dX7_joined_84 rfl (v := 1) rfl ?_
        refine P_goto (tgt := 89) dX7_joined_85 rfl ?_
        refine P_iret dX7_joined_89 ?_
        exact ⟨by simp [jn, *], rfl, rfl⟩
  by_cases k2 : k = 38
  · subst k2
    refine P_iload0 (pc' := 1) dX7_joined_0 rfl ?_
    refine P_look (tgt := 90) dX7_joined_1 (by decide) rfl rfl ?_
    refine P_iload1 (pc' := 91) dX7_joined_90 rfl ?_
    refine P_if_eq (tgt := 102) (pc' := 94) dX7_joined_91 rfl rfl (fun h91 => ?_) (fun h91 => ?_)
    · refine P_iconst (pc' := 103) dX7_joined_102 rfl (v := 0) rfl ?_
      refine P_iret dX7_joined_103 ?_
      exact ⟨by simp [jn, *], rfl, rfl⟩
    · refine P_iload2 (pc' := 95) dX7_joined_94 rfl ?_
      refine P_if_eq (tgt := 102) (pc' := 98) dX7_joined_95 rfl rfl (fun h95 => ?_) (fun h95 => ?_)
      · refine P_iconst (pc' := 103) dX7_joined_102 rfl (v := 0) rfl ?_
        refine P_iret dX7_joined_103 ?_
        exact ⟨by simp [jn, *], rfl, rfl⟩
      · refine P_iconst (pc' := 99) dX7_joined_98 rfl (v := 1) rfl ?_
        refine P_goto (tgt := 103) dX7_joined_99 rfl ?_
        refine P_iret dX7_joined_103 ?_
        exact ⟨by simp [jn, *], rfl, rfl⟩
  by_cases k3 : k = 60
  · subst k3
    refine P_iload0 (pc' := 1) dX7_joined_0 rfl ?_
    refine P_look (tgt := 104) dX7_joined_1 (by decide) rfl rfl ?_
    refine P_iload1 (pc' := 105) dX7_joined_104 rfl ?_
    refine P_iload2 (pc' := 106) dX7_joined_105 rfl ?_
    refine P_icmp_ge (tgt := 113) (pc' := 109) dX7_joined_106 rfl rfl (fun h106 => ?_) (fun h106 => ?_)
    · refine P_iconst (pc' := 114) dX7_joined_113 rfl (v := 0) rfl ?_
      refine P_iret dX7_joined_114 ?_
      exact ⟨by first | (have q := Int32.not_lt.mpr h106; simp [jn, q]; done) | (have q := Int32.not_le.mp h106; simp [jn, q]; done), rfl, rfl⟩
    · refine P_iconst (pc' := 110) dX7_joined_109 rfl (v := 1) rfl ?_
      refine P_goto (tgt := 114) dX7_joined_110 rfl ?_
      refine P_iret dX7_joined_114 ?_
      exact ⟨by first | (have q := Int32.not_lt.mpr h106; simp [jn, q]; done) | (have q := Int32.not_le.mp h106; simp [jn, q]; done), rfl, rfl⟩
  by_cases k4 : k = 61
  · subst k4
    refine P_iload0 (pc' := 1) dX7_joined_0 rfl ?_
    refine P_look (tgt := 115) dX7_joined_1 (by decide) rfl rfl ?_
    refine P_iload1 (pc' := 116) dX7_joined_115 rfl ?_
    refine P_iload2 (pc' := 117) dX7_joined_116 rfl ?_
    refine P_icmp_ne (tgt := 124) (pc' := 120) dX7_joined_117 rfl rfl (fun h117 => ?_) (fun h117 => ?_)
    · refine P_iconst (pc' := 125) dX7_joined_124 rfl (v := 0) rfl ?_
      refine P_iret dX7_joined_125 ?_
      exact ⟨by simp [jn, *], rfl, rfl⟩
    · refine P_iconst (pc' := 121) dX7_joined_120 rfl (v := 1) rfl ?_
      refine P_goto (tgt := 125) dX7_joined_121 rfl ?_
      refine P_iret dX7_joined_125 ?_
      exact ⟨by simp [jn, *], rfl, rfl⟩
  by_cases k5 : k = 62
  · subst k5
    refine P_iload0 (pc' := 1) dX7_joined_0 rfl ?_
    refine P_look (tgt := 126) dX7_joined_1 (by decide) rfl rfl ?_
    refine P_iload1 (pc' := 127) dX7_joined_126 rfl ?_
    refine P_iload2 (pc' := 128) dX7_joined_127 rfl ?_
    refine P_icmp_le (tgt := 135) (pc' := 131) dX7_joined_128 rfl rfl (fun h128 => ?_) (fun h128 => ?_)
    · refine P_iconst (pc' := 136) dX7_joined_135 rfl (v := 0) rfl ?_
      refine P_iret dX7_joined_136 ?_
      exact ⟨by first | (have q := Int32.not_lt.mpr h128; simp [jn, q]; done) | (have q := Int32.not_le.mp h128; simp [jn, q]; done), rfl, rfl⟩
    · refine P_iconst (pc' := 132) dX7_joined_131 rfl (v := 1) rfl ?_
      refine P_goto (tgt := 136) dX7_joined_132 rfl ?_
      refine P_iret dX7_joined_136 ?_
      exact ⟨by first | (have q := Int32.not_lt.mpr h128; simp [jn, q]; done) | (have q := Int32.not_le.mp h128; simp [jn, q]; done), rfl, rfl⟩
  by_cases k6 : k = 43
  · subst k6
    refine P_iload0 (pc' := 1) dX7_joined_0 rfl ?_
    refine P_look (tgt := 137) dX7_joined_1 (by decide) rfl rfl ?_
    refine P_iload1 (pc' := 138) dX7_joined_137 rfl ?_
    refine P_iload2 (pc' := 139) dX7_joined_138 rfl ?_
    refine P_iadd (pc' := 140) dX7_joined_139 rfl ?_
    refine P_iret dX7_joined_140 ?_
    exact ⟨rfl, rfl, rfl⟩
  by_cases k7 : k = 45
  · subst k7
    refine P_iload0 (pc' := 1) dX7_joined_0 rfl ?_
    refine P_look (tgt := 141) dX7_joined_1 (by decide) rfl rfl ?_
    refine P_iload1 (pc' := 142) dX7_joined_141 rfl ?_
    refine P_iload2 (pc' := 143) dX7_joined_142 rfl ?_
    refine P_isub (pc' := 144) dX7_joined_143 rfl ?_
    refine P_iret dX7_joined_144 ?_
    exact ⟨rfl, rfl, rfl⟩
  by_cases k8 : k = 42
  · subst k8
    refine P_iload0 (pc' := 1) dX7_joined_0 rfl ?_
    refine P_look (tgt := 145) dX7_joined_1 (by decide) rfl rfl ?_
    refine P_iload1 (pc' := 146) dX7_joined_145 rfl ?_
    refine P_iload2 (pc' := 147) dX7_joined_146 rfl ?_
    refine P_imul (pc' := 148) dX7_joined_147 rfl ?_
    refine P_iret dX7_joined_148 ?_
    exact ⟨rfl, rfl, rfl⟩
  refine P_iload0 (pc' := 1) dX7_joined_0 rfl ?_
  refine P_look (tgt := 149) dX7_joined_1 (by decide) (by rw [lv_osw k2 (by decide), lv_osw k8 (by decide), lv_osw k6 (by decide), lv_osw k7 (by decide), lv_osw k3 (by decide), lv_osw k4 (by decide), lv_osw k5 (by decide), lv_osw k1 (by decide)]) rfl ?_
  refine P_iload2 (pc' := 150) dX7_joined_149 rfl ?_
  refine P_if_ne (tgt := 157) (pc' := 153) dX7_joined_150 rfl rfl (fun h150 => ?_) (fun h150 => ?_)
  · refine P_iload1 (pc' := 158) dX7_joined_157 rfl ?_
    refine P_iload2 (pc' := 159) dX7_joined_158 rfl ?_
    refine P_idiv (pc' := 160) dX7_joined_159 rfl h150 ?_
    refine P_iret dX7_joined_160 ?_
    exact ⟨by simp [jn, *], rfl, rfl⟩
  · refine P_iconst (pc' := 154) dX7_joined_153 rfl (v := 0) rfl ?_
    refine P_goto (tgt := 160) dX7_joined_154 rfl ?_
    refine P_iret dX7_joined_160 ?_
    exact ⟨by simp [jn, *], rfl, rfl⟩
def sR (I : Mem) (a : Nat) (f : Nat → Int32) : Mem := fun x => if x = a then f else I x
theorem sR_s (I : Mem) (a : Nat) (f : Nat → Int32) : sR I a f a = f := if_pos rfl
theorem sR_n {I : Mem} {a x : Nat} {f : Nat → Int32} (h : x ≠ a) : sR I a f x = I x := if_neg h
theorem sR_u (I : Mem) (a k : Nat) (f : Nat → Int32) (v : Int32) : u2 (sR I a f) a k v = sR I a (upd f k v) := by
  funext x y
  by_cases h : x = a
  · subst h; simp [u2, sR, upd]
  · simp [u2, sR, h]
theorem sR_self (I : Mem) (a : Nat) : sR I a (I a) = I := by
  funext x
  by_cases h : x = a
  · subst h; simp [sR]
  · simp [sR, h]
theorem u2_sR (I : Mem) (a k : Nat) (v : Int32) : u2 I a k v = sR I a (upd (I a) k v) := by
  rw [← sR_u, sR_self]
/-- a law's object at t: its steps, its stack -/
def TxOk (S : Shp) (I : Mem) (t len sz : Nat) (steps : Nat → Int32) : Prop := 77 ≤ t ∧ t % 3 = 2 ∧ t + 2 < S.1 ∧ S.2.1 t = (6, 0) ∧ S.2.1 (t + 1) = (9, len) ∧ S.2.1 (t + 2) = (9, sz) ∧ S.2.2 t 2 = some (t + 1) ∧ S.2.2 t 3 = some (t + 2) ∧ (∀ k, k < len → I (t + 1) k = steps k) ∧ len ≤ 96 ∧ 1 ≤ sz ∧ sz ≤ 96
def gvS (f s th : Int32) (sz : Nat) (k : Int32) (q : Nat × (Nat → Int32)) : Nat × (Nat → Int32) :=
  if k < -3 then
    (if k = -33 then (if q.1 = 0 then q else (q.1, upd q.2 (q.1 - 1) (if q.2 (q.1 - 1) = 0 then 1 else 0)))
     else if q.1 ≤ 1 then q else (q.1 - 1, upd q.2 (q.1 - 2) (jn (-k) (q.2 (q.1 - 2)) (q.2 (q.1 - 1)))))
  else if q.1 < sz then (q.1 + 1, upd q.2 q.1 (if k < 0 then (if k = -1 then f else if k = -2 then s else th) else k)) else q
def gvG (f s th : Int32) (sz : Nat) (steps : Nat → Int32) : Nat → Nat → Nat × (Nat → Int32) → Nat × (Nat → Int32)
  | 0, _, q => q
  | n + 1, i, q => gvG f s th sz steps n (i + 1) (gvS f s th sz (steps i) q)
theorem gvS_le {f s th : Int32} {sz : Nat} {k : Int32} {q : Nat × (Nat → Int32)} (h : q.1 ≤ sz) : (gvS f s th sz k q).1 ≤ sz := by
  unfold gvS
  repeat' split
  all_goals first | exact h | (show _ ≤ sz; omega)
theorem g0 {a b : Nat} (h : ¬ nI b ≤ nI a) (ha : a < 2 ^ 31) (hb : b < 2 ^ 31) : a < b := by
  rcases Nat.lt_or_ge a b with q | q
  · exact q
  · exact absurd (nI_le q ha) h
theorem g2 {a b : Nat} (h : nI b ≤ nI a) (ha : a < 2 ^ 31) (hb : b < 2 ^ 31) : b ≤ a := (nI_leI hb ha).mp h
theorem lp_X7_gives {G : GX} {S : Shp} {I : Mem} {d t len sz : Nat} {steps : Nat → Int32} {f s th : Int32} {Q : Option Value → Shp → Mem → Prop} (hT : TxOk S I t len sz steps) (hd : 1 ≤ d) : ∀ (n i : Nat) (q : Nat × (Nat → Int32)), i + n = len → q.1 ≤ sz → Q (some (.int ((gvG f s th sz steps n i q).2 0))) S (sR I (t + 2) (gvG f s th sz steps n i q).2) →
    PW G RX7 "gives" cX7_gives 7 (some .int) d 0 0 Q 6 [some (.ref t), some (.int f), some (.int s), some (.int th), some (.int (nI q.1)), some (.int (nI i)), none] [] S (sR I (t + 2) q.2) := by
  obtain ⟨t1, t2, t3, t4, t5, t6, t7, t8, t9, t10, t11, t12⟩ := hT
  intro n
  induction n with
  | zero =>
    intro i q hi hq hQ
    refine P_iload5 (pc' := 8) dX7_gives_6 rfl ?_
    refine P_aload0 (pc' := 9) dX7_gives_8 rfl ?_
    refine P_getr (pc' := 12) dX7_gives_9 rfl fl_X7_16 rfl (by omega) t4 t7 ?_
    refine P_alen (pc' := 13) dX7_gives_12 rfl (by omega) t5 (by decide) (by decide) ?_
    refine P_icmp_ge (tgt := 174) (pc' := 16) dX7_gives_13 rfl rfl (fun h13 => ?_) (fun h13 => ?_)
    · refine P_aload0 (pc' := 175) dX7_gives_174 rfl ?_
      refine P_getr (pc' := 178) dX7_gives_175 rfl fl_X7_26 rfl (by omega) t4 t8 ?_
      refine P_iconst (pc' := 179) dX7_gives_178 rfl (v := 0) rfl ?_
      refine P_iald (pc' := 180) dX7_gives_179 rfl (by omega) t6 (j := 0) rfl (by omega) (by omega) ?_
      refine P_iret dX7_gives_180 ?_
      show Q (some (.int (sR I (t + 2) q.2 (t + 2) 0))) S (sR I (t + 2) q.2)
      rw [sR_s]
      exact hQ
    · exact absurd (nI_le (by omega) (by omega)) h13
  | succ n ih =>
    intro i q hi hq hQ
    obtain ⟨tp, st⟩ := q
    have hq : tp ≤ sz := hq
    have eI : sR I (t + 2) st (t + 1) i = steps i := by rw [sR_n (by omega)]; exact t9 i (by omega)
    have eN : nI i + 1 = nI (i + 1) := nI_1 i
    have go : ∀ (q' : Nat × (Nat → Int32)) (J : Mem) (o6 : Option Value), gvS f s th sz (steps i) (tp, st) = q' → J = sR I (t + 2) q'.2 → PW G RX7 "gives" cX7_gives 7 (some .int) d 0 0 Q 6 [some (.ref t), some (.int f), some (.int s), some (.int th), some (.int (nI q'.1)), some (.int (nI (i + 1))), o6] [] S J := by
      intro q' J o6 e1 e2
      subst e2
      subst e1
      refine P_sub _ ?_ (ih (i + 1) _ (by omega) (gvS_le hq) hQ)
      exact ⟨rfl, rfl, rfl, rfl, rfl, rfl, trivial⟩
    generalize hk : steps i = k at eI go
    show PW G RX7 "gives" cX7_gives 7 (some .int) d 0 0 Q 6 [some (.ref t), some (.int f), some (.int s), some (.int th), some (.int (nI tp)), some (.int (nI i)), none] [] S (sR I (t + 2) st)
    have gz : ¬ nI tp ≤ 0 → 0 < tp := fun h => by
      rcases Nat.eq_zero_or_pos tp with q | q
      · subst q; exact absurd (by decide) h
      · exact q
    have go1 : ¬ nI tp ≤ 1 → 1 < tp := fun h => by
      rcases Nat.lt_or_ge 1 tp with q | q
      · exact q
      · exact absurd (nI_le (b := 1) q (by decide)) h
    refine P_iload5 (pc' := 8) dX7_gives_6 rfl ?_
    refine P_aload0 (pc' := 9) dX7_gives_8 rfl ?_
    refine P_getr (pc' := 12) dX7_gives_9 rfl fl_X7_16 rfl (by omega) t4 t7 ?_
    refine P_alen (pc' := 13) dX7_gives_12 rfl (by omega) t5 (by decide) (by decide) ?_
    refine P_icmp_ge (tgt := 174) (pc' := 16) dX7_gives_13 rfl rfl (fun h13 => ?_) (fun h13 => ?_)
    · exact absurd h13 (nI_ge (by omega) (by omega))
    · refine P_aload0 (pc' := 17) dX7_gives_16 rfl ?_
      refine P_getr (pc' := 20) dX7_gives_17 rfl fl_X7_16 rfl (by omega) t4 t7 ?_
      refine P_iload5 (pc' := 22) dX7_gives_20 rfl ?_
      refine P_iald (pc' := 23) dX7_gives_22 rfl (by omega) t5 (j := i) rfl (by omega) (by omega) ?_
      refine P_as (y := k) eI ?_
      refine P_istore6 (pc' := 25) dX7_gives_23 rfl (by decide) rfl ?_
      refine P_iload6 (pc' := 27) dX7_gives_25 rfl ?_
      refine P_bipush (pc' := 29) dX7_gives_27 rfl (v := (-3)) rfl ?_
      refine P_icmp_lt (tgt := 87) (pc' := 32) dX7_gives_29 rfl rfl (fun h29 => ?_) (fun h29 => ?_)
      · refine P_iload6 (pc' := 89) dX7_gives_87 rfl ?_
        refine P_bipush (pc' := 91) dX7_gives_89 rfl (v := (-33)) rfl ?_
        refine P_icmp_ne (tgt := 128) (pc' := 94) dX7_gives_91 rfl rfl (fun h91 => ?_) (fun h91 => ?_)
        · refine P_iload4 (pc' := 130) dX7_gives_128 rfl ?_
          refine P_iconst (pc' := 131) dX7_gives_130 rfl (v := 1) rfl ?_
          refine P_icmp_le (tgt := 168) (pc' := 134) dX7_gives_131 rfl rfl (fun h131 => ?_) (fun h131 => ?_)
          · refine P_iinc5 (pc' := 171) dX7_gives_168 rfl eN (by decide) rfl ?_
            refine P_goto (tgt := 6) dX7_gives_171 rfl ?_
            first
              | exact go (tp, st) _ _ (by unfold gvS; dsimp only; rw [if_neg h29, if_neg (Nat.not_lt.mpr (g2 h39 (by omega) (by omega)))]) rfl
              | exact go (tp + 1, upd st tp k) _ _ (by unfold gvS; dsimp only; rw [if_neg h29, if_pos (g0 h39 (by omega) (by omega)), if_neg h50]) (sR_u _ _ _ _ _)
              | exact go (tp + 1, upd st tp f) _ _ (by unfold gvS; dsimp only; rw [if_neg h29, if_pos (g0 h39 (by omega) (by omega)), if_pos h50, if_pos h61]) (sR_u _ _ _ _ _)
              | exact go (tp + 1, upd st tp s) _ _ (by unfold gvS; dsimp only; rw [if_neg h29, if_pos (g0 h39 (by omega) (by omega)), if_pos h50, if_neg h61, if_pos h72]) (sR_u _ _ _ _ _)
              | exact go (tp + 1, upd st tp th) _ _ (by unfold gvS; dsimp only; rw [if_neg h29, if_pos (g0 h39 (by omega) (by omega)), if_pos h50, if_neg h61, if_neg h72]) (sR_u _ _ _ _ _)
              | exact go (tp, st) _ _ (by unfold gvS; dsimp only; rw [if_pos h29, if_pos h91, if_pos (Nat.le_zero.mp (g2 (a := 0) (b := tp) h96 (by omega) (by omega)))]) rfl
              | exact go (tp, upd st (tp - 1) (if st (tp - 1) = 0 then 1 else 0)) _ _ (by unfold gvS; dsimp only; rw [if_pos h29, if_pos h91, if_neg (by have := gz h96; omega)]) (by rw [sR_u]; rw [sR_s] at h116; simp [h116])
              | exact go (tp, st) _ _ (by unfold gvS; dsimp only; rw [if_pos h29, if_neg h91, if_pos (g2 (a := 1) (b := tp) h131 (by omega) (by omega))]) rfl
              | exact go (tp - 1, upd st (tp - 2) (jn (-k) (st (tp - 2)) (st (tp - 1)))) _ _ (by unfold gvS; dsimp only; rw [if_pos h29, if_neg h91, if_neg (by have := go1 h131; omega)]) (by rw [sR_u, sR_s])
          · refine P_iinc4 (pc' := 137) dX7_gives_134 rfl (sb_m1 (p := tp) (by have := go1 h131; omega)) (by decide) rfl ?_
            refine P_aload0 (pc' := 138) dX7_gives_137 rfl ?_
            refine P_getr (pc' := 141) dX7_gives_138 rfl fl_X7_26 rfl (by omega) t4 t8 ?_
            refine P_iload4 (pc' := 143) dX7_gives_141 rfl ?_
            refine P_iconst (pc' := 144) dX7_gives_143 rfl (v := 1) rfl ?_
            refine P_isub (pc' := 145) dX7_gives_144 rfl ?_
            refine P_iload6 (pc' := 147) dX7_gives_145 rfl ?_
            refine P_ineg (pc' := 148) dX7_gives_147 rfl ?_
            refine P_aload0 (pc' := 149) dX7_gives_148 rfl ?_
            refine P_getr (pc' := 152) dX7_gives_149 rfl fl_X7_26 rfl (by omega) t4 t8 ?_
            refine P_iload4 (pc' := 154) dX7_gives_152 rfl ?_
            refine P_iconst (pc' := 155) dX7_gives_154 rfl (v := 1) rfl ?_
            refine P_isub (pc' := 156) dX7_gives_155 rfl ?_
            refine P_iald (pc' := 157) dX7_gives_156 rfl (by omega) t6 (j := tp - 2) (by have := go1 h131; rw [show tp - 2 = tp - 1 - 1 by omega]; exact pk_sub (a := tp - 1) (b := 1) (by omega)) (by have := go1 h131; omega) (by omega) ?_
            refine P_aload0 (pc' := 158) dX7_gives_157 rfl ?_
            refine P_getr (pc' := 161) dX7_gives_158 rfl fl_X7_26 rfl (by omega) t4 t8 ?_
            refine P_iload4 (pc' := 163) dX7_gives_161 rfl ?_
            refine P_iald (pc' := 164) dX7_gives_163 rfl (by omega) t6 (j := tp - 1) rfl (by have := go1 h131; omega) (by omega) ?_
            refine P_callS3 (pc' := 167) dX7_gives_164 rfl lk_X7_31 (c_X7_joined (d := 0) (-k) _ _) (by omega) (Nat.le_of_ble_eq_true rfl) (fun r S' I' hq => ?_)
            obtain ⟨rfl, rfl, rfl⟩ := hq
            refine P_iast (pc' := 168) dX7_gives_167 rfl (by omega) t6 (j := tp - 2) (by have := go1 h131; rw [show tp - 2 = tp - 1 - 1 by omega]; exact pk_sub (a := tp - 1) (b := 1) (by omega)) (by have := go1 h131; omega) (by omega) ?_
            refine P_iinc5 (pc' := 171) dX7_gives_168 rfl eN (by decide) rfl ?_
            refine P_goto (tgt := 6) dX7_gives_171 rfl ?_
            first
              | exact go (tp, st) _ _ (by unfold gvS; dsimp only; rw [if_neg h29, if_neg (Nat.not_lt.mpr (g2 h39 (by omega) (by omega)))]) rfl
              | exact go (tp + 1, upd st tp k) _ _ (by unfold gvS; dsimp only; rw [if_neg h29, if_pos (g0 h39 (by omega) (by omega)), if_neg h50]) (sR_u _ _ _ _ _)
              | exact go (tp + 1, upd st tp f) _ _ (by unfold gvS; dsimp only; rw [if_neg h29, if_pos (g0 h39 (by omega) (by omega)), if_pos h50, if_pos h61]) (sR_u _ _ _ _ _)
              | exact go (tp + 1, upd st tp s) _ _ (by unfold gvS; dsimp only; rw [if_neg h29, if_pos (g0 h39 (by omega) (by omega)), if_pos h50, if_neg h61, if_pos h72]) (sR_u _ _ _ _ _)
              | exact go (tp + 1, upd st tp th) _ _ (by unfold gvS; dsimp only; rw [if_neg h29, if_pos (g0 h39 (by omega) (by omega)), if_pos h50, if_neg h61, if_neg h72]) (sR_u _ _ _ _ _)
              | exact go (tp, st) _ _ (by unfold gvS; dsimp only; rw [if_pos h29, if_pos h91, if_pos (Nat.le_zero.mp (g2 (a := 0) (b := tp) h96 (by omega) (by omega)))]) rfl
              | exact go (tp, upd st (tp - 1) (if st (tp - 1) = 0 then 1 else 0)) _ _ (by unfold gvS; dsimp only; rw [if_pos h29, if_pos h91, if_neg (by have := gz h96; omega)]) (by rw [sR_u]; rw [sR_s] at h116; simp [h116])
              | exact go (tp, st) _ _ (by unfold gvS; dsimp only; rw [if_pos h29, if_neg h91, if_pos (g2 (a := 1) (b := tp) h131 (by omega) (by omega))]) rfl
              | exact go (tp - 1, upd st (tp - 2) (jn (-k) (st (tp - 2)) (st (tp - 1)))) _ _ (by unfold gvS; dsimp only; rw [if_pos h29, if_neg h91, if_neg (by have := go1 h131; omega)]) (by rw [sR_u, sR_s])
        · refine P_iload4 (pc' := 96) dX7_gives_94 rfl ?_
          refine P_if_le (tgt := 168) (pc' := 99) dX7_gives_96 rfl rfl (fun h96 => ?_) (fun h96 => ?_)
          · refine P_iinc5 (pc' := 171) dX7_gives_168 rfl eN (by decide) rfl ?_
            refine P_goto (tgt := 6) dX7_gives_171 rfl ?_
            first
              | exact go (tp, st) _ _ (by unfold gvS; dsimp only; rw [if_neg h29, if_neg (Nat.not_lt.mpr (g2 h39 (by omega) (by omega)))]) rfl
              | exact go (tp + 1, upd st tp k) _ _ (by unfold gvS; dsimp only; rw [if_neg h29, if_pos (g0 h39 (by omega) (by omega)), if_neg h50]) (sR_u _ _ _ _ _)
              | exact go (tp + 1, upd st tp f) _ _ (by unfold gvS; dsimp only; rw [if_neg h29, if_pos (g0 h39 (by omega) (by omega)), if_pos h50, if_pos h61]) (sR_u _ _ _ _ _)
              | exact go (tp + 1, upd st tp s) _ _ (by unfold gvS; dsimp only; rw [if_neg h29, if_pos (g0 h39 (by omega) (by omega)), if_pos h50, if_neg h61, if_pos h72]) (sR_u _ _ _ _ _)
              | exact go (tp + 1, upd st tp th) _ _ (by unfold gvS; dsimp only; rw [if_neg h29, if_pos (g0 h39 (by omega) (by omega)), if_pos h50, if_neg h61, if_neg h72]) (sR_u _ _ _ _ _)
              | exact go (tp, st) _ _ (by unfold gvS; dsimp only; rw [if_pos h29, if_pos h91, if_pos (Nat.le_zero.mp (g2 (a := 0) (b := tp) h96 (by omega) (by omega)))]) rfl
              | exact go (tp, upd st (tp - 1) (if st (tp - 1) = 0 then 1 else 0)) _ _ (by unfold gvS; dsimp only; rw [if_pos h29, if_pos h91, if_neg (by have := gz h96; omega)]) (by rw [sR_u]; rw [sR_s] at h116; simp [h116])
              | exact go (tp, st) _ _ (by unfold gvS; dsimp only; rw [if_pos h29, if_neg h91, if_pos (g2 (a := 1) (b := tp) h131 (by omega) (by omega))]) rfl
              | exact go (tp - 1, upd st (tp - 2) (jn (-k) (st (tp - 2)) (st (tp - 1)))) _ _ (by unfold gvS; dsimp only; rw [if_pos h29, if_neg h91, if_neg (by have := go1 h131; omega)]) (by rw [sR_u, sR_s])
          · refine P_aload0 (pc' := 100) dX7_gives_99 rfl ?_
            refine P_getr (pc' := 103) dX7_gives_100 rfl fl_X7_26 rfl (by omega) t4 t8 ?_
            refine P_iload4 (pc' := 105) dX7_gives_103 rfl ?_
            refine P_iconst (pc' := 106) dX7_gives_105 rfl (v := 1) rfl ?_
            refine P_isub (pc' := 107) dX7_gives_106 rfl ?_
            refine P_aload0 (pc' := 108) dX7_gives_107 rfl ?_
            refine P_getr (pc' := 111) dX7_gives_108 rfl fl_X7_26 rfl (by omega) t4 t8 ?_
            refine P_iload4 (pc' := 113) dX7_gives_111 rfl ?_
            refine P_iconst (pc' := 114) dX7_gives_113 rfl (v := 1) rfl ?_
            refine P_isub (pc' := 115) dX7_gives_114 rfl ?_
            refine P_iald (pc' := 116) dX7_gives_115 rfl (by omega) t6 (j := tp - 1) (pk_sub (a := tp) (b := 1) (by have := gz h96; omega)) (by have := gz h96; omega) (by omega) ?_
            refine P_if_ne (tgt := 123) (pc' := 119) dX7_gives_116 rfl rfl (fun h116 => ?_) (fun h116 => ?_)
            · refine P_iconst (pc' := 124) dX7_gives_123 rfl (v := 0) rfl ?_
              refine P_iast (pc' := 125) dX7_gives_124 rfl (by omega) t6 (j := tp - 1) (pk_sub (a := tp) (b := 1) (by have := gz h96; omega)) (by have := gz h96; omega) (by omega) ?_
              refine P_goto (tgt := 168) dX7_gives_125 rfl ?_
              refine P_iinc5 (pc' := 171) dX7_gives_168 rfl eN (by decide) rfl ?_
              refine P_goto (tgt := 6) dX7_gives_171 rfl ?_
              first
                | exact go (tp, st) _ _ (by unfold gvS; dsimp only; rw [if_neg h29, if_neg (Nat.not_lt.mpr (g2 h39 (by omega) (by omega)))]) rfl
                | exact go (tp + 1, upd st tp k) _ _ (by unfold gvS; dsimp only; rw [if_neg h29, if_pos (g0 h39 (by omega) (by omega)), if_neg h50]) (sR_u _ _ _ _ _)
                | exact go (tp + 1, upd st tp f) _ _ (by unfold gvS; dsimp only; rw [if_neg h29, if_pos (g0 h39 (by omega) (by omega)), if_pos h50, if_pos h61]) (sR_u _ _ _ _ _)
                | exact go (tp + 1, upd st tp s) _ _ (by unfold gvS; dsimp only; rw [if_neg h29, if_pos (g0 h39 (by omega) (by omega)), if_pos h50, if_neg h61, if_pos h72]) (sR_u _ _ _ _ _)
                | exact go (tp + 1, upd st tp th) _ _ (by unfold gvS; dsimp only; rw [if_neg h29, if_pos (g0 h39 (by omega) (by omega)), if_pos h50, if_neg h61, if_neg h72]) (sR_u _ _ _ _ _)
                | exact go (tp, st) _ _ (by unfold gvS; dsimp only; rw [if_pos h29, if_pos h91, if_pos (Nat.le_zero.mp (g2 (a := 0) (b := tp) h96 (by omega) (by omega)))]) rfl
                | exact go (tp, upd st (tp - 1) (if st (tp - 1) = 0 then 1 else 0)) _ _ (by unfold gvS; dsimp only; rw [if_pos h29, if_pos h91, if_neg (by have := gz h96; omega)]) (by rw [sR_u]; rw [sR_s] at h116; simp [h116])
                | exact go (tp, st) _ _ (by unfold gvS; dsimp only; rw [if_pos h29, if_neg h91, if_pos (g2 (a := 1) (b := tp) h131 (by omega) (by omega))]) rfl
                | exact go (tp - 1, upd st (tp - 2) (jn (-k) (st (tp - 2)) (st (tp - 1)))) _ _ (by unfold gvS; dsimp only; rw [if_pos h29, if_neg h91, if_neg (by have := go1 h131; omega)]) (by rw [sR_u, sR_s])
            · refine P_iconst (pc' := 120) dX7_gives_119 rfl (v := 1) rfl ?_
              refine P_goto (tgt := 124) dX7_gives_120 rfl ?_
              refine P_iast (pc' := 125) dX7_gives_124 rfl (by omega) t6 (j := tp - 1) (pk_sub (a := tp) (b := 1) (by have := gz h96; omega)) (by have := gz h96; omega) (by omega) ?_
              refine P_goto (tgt := 168) dX7_gives_125 rfl ?_
              refine P_iinc5 (pc' := 171) dX7_gives_168 rfl eN (by decide) rfl ?_
              refine P_goto (tgt := 6) dX7_gives_171 rfl ?_
              first
                | exact go (tp, st) _ _ (by unfold gvS; dsimp only; rw [if_neg h29, if_neg (Nat.not_lt.mpr (g2 h39 (by omega) (by omega)))]) rfl
                | exact go (tp + 1, upd st tp k) _ _ (by unfold gvS; dsimp only; rw [if_neg h29, if_pos (g0 h39 (by omega) (by omega)), if_neg h50]) (sR_u _ _ _ _ _)
                | exact go (tp + 1, upd st tp f) _ _ (by unfold gvS; dsimp only; rw [if_neg h29, if_pos (g0 h39 (by omega) (by omega)), if_pos h50, if_pos h61]) (sR_u _ _ _ _ _)
                | exact go (tp + 1, upd st tp s) _ _ (by unfold gvS; dsimp only; rw [if_neg h29, if_pos (g0 h39 (by omega) (by omega)), if_pos h50, if_neg h61, if_pos h72]) (sR_u _ _ _ _ _)
                | exact go (tp + 1, upd st tp th) _ _ (by unfold gvS; dsimp only; rw [if_neg h29, if_pos (g0 h39 (by omega) (by omega)), if_pos h50, if_neg h61, if_neg h72]) (sR_u _ _ _ _ _)
                | exact go (tp, st) _ _ (by unfold gvS; dsimp only; rw [if_pos h29, if_pos h91, if_pos (Nat.le_zero.mp (g2 (a := 0) (b := tp) h96 (by omega) (by omega)))]) rfl
                | exact go (tp, upd st (tp - 1) (if st (tp - 1) = 0 then 1 else 0)) _ _ (by unfold gvS; dsimp only; rw [if_pos h29, if_pos h91, if_neg (by have := gz h96; omega)]) (by rw [sR_u]; rw [sR_s] at h116; simp [h116])
                | exact go (tp, st) _ _ (by unfold gvS; dsimp only; rw [if_pos h29, if_neg h91, if_pos (g2 (a := 1) (b := tp) h131 (by omega) (by omega))]) rfl
                | exact go (tp - 1, upd st (tp - 2) (jn (-k) (st (tp - 2)) (st (tp - 1)))) _ _ (by unfold gvS; dsimp only; rw [if_pos h29, if_neg h91, if_neg (by have := go1 h131; omega)]) (by rw [sR_u, sR_s])
      · refine P_iload4 (pc' := 34) dX7_gives_32 rfl ?_
        refine P_aload0 (pc' := 35) dX7_gives_34 rfl ?_
        refine P_getr (pc' := 38) dX7_gives_35 rfl fl_X7_26 rfl (by omega) t4 t8 ?_
        refine P_alen (pc' := 39) dX7_gives_38 rfl (by omega) t6 (by decide) (by decide) ?_
        refine P_icmp_ge (tgt := 168) (pc' := 42) dX7_gives_39 rfl rfl (fun h39 => ?_) (fun h39 => ?_)
        · refine P_iinc5 (pc' := 171) dX7_gives_168 rfl eN (by decide) rfl ?_
          refine P_goto (tgt := 6) dX7_gives_171 rfl ?_
          first
            | exact go (tp, st) _ _ (by unfold gvS; dsimp only; rw [if_neg h29, if_neg (Nat.not_lt.mpr (g2 h39 (by omega) (by omega)))]) rfl
            | exact go (tp + 1, upd st tp k) _ _ (by unfold gvS; dsimp only; rw [if_neg h29, if_pos (g0 h39 (by omega) (by omega)), if_neg h50]) (sR_u _ _ _ _ _)
            | exact go (tp + 1, upd st tp f) _ _ (by unfold gvS; dsimp only; rw [if_neg h29, if_pos (g0 h39 (by omega) (by omega)), if_pos h50, if_pos h61]) (sR_u _ _ _ _ _)
            | exact go (tp + 1, upd st tp s) _ _ (by unfold gvS; dsimp only; rw [if_neg h29, if_pos (g0 h39 (by omega) (by omega)), if_pos h50, if_neg h61, if_pos h72]) (sR_u _ _ _ _ _)
            | exact go (tp + 1, upd st tp th) _ _ (by unfold gvS; dsimp only; rw [if_neg h29, if_pos (g0 h39 (by omega) (by omega)), if_pos h50, if_neg h61, if_neg h72]) (sR_u _ _ _ _ _)
            | exact go (tp, st) _ _ (by unfold gvS; dsimp only; rw [if_pos h29, if_pos h91, if_pos (Nat.le_zero.mp (g2 (a := 0) (b := tp) h96 (by omega) (by omega)))]) rfl
            | exact go (tp, upd st (tp - 1) (if st (tp - 1) = 0 then 1 else 0)) _ _ (by unfold gvS; dsimp only; rw [if_pos h29, if_pos h91, if_neg (by have := gz h96; omega)]) (by rw [sR_u]; rw [sR_s] at h116; simp [h116])
            | exact go (tp, st) _ _ (by unfold gvS; dsimp only; rw [if_pos h29, if_neg h91, if_pos (g2 (a := 1) (b := tp) h131 (by omega) (by omega))]) rfl
            | exact go (tp - 1, upd st (tp - 2) (jn (-k) (st (tp - 2)) (st (tp - 1)))) _ _ (by unfold gvS; dsimp only; rw [if_pos h29, if_neg h91, if_neg (by have := go1 h131; omega)]) (by rw [sR_u, sR_s])
        · refine P_aload0 (pc' := 43) dX7_gives_42 rfl ?_
          refine P_getr (pc' := 46) dX7_gives_43 rfl fl_X7_26 rfl (by omega) t4 t8 ?_
          refine P_iload4 (pc' := 48) dX7_gives_46 rfl ?_
          refine P_iload6 (pc' := 50) dX7_gives_48 rfl ?_
          refine P_if_lt (tgt := 58) (pc' := 53) dX7_gives_50 rfl rfl (fun h50 => ?_) (fun h50 => ?_)
          · refine P_iload6 (pc' := 60) dX7_gives_58 rfl ?_
            refine P_iconst (pc' := 61) dX7_gives_60 rfl (v := (-1)) rfl ?_
            refine P_icmp_ne (tgt := 68) (pc' := 64) dX7_gives_61 rfl rfl (fun h61 => ?_) (fun h61 => ?_)
            · refine P_iload6 (pc' := 70) dX7_gives_68 rfl ?_
              refine P_bipush (pc' := 72) dX7_gives_70 rfl (v := (-2)) rfl ?_
              refine P_icmp_ne (tgt := 79) (pc' := 75) dX7_gives_72 rfl rfl (fun h72 => ?_) (fun h72 => ?_)
              · refine P_iload3 (pc' := 80) dX7_gives_79 rfl ?_
                refine P_iast (pc' := 81) dX7_gives_80 rfl (by omega) t6 (j := tp) rfl (g0 h39 (by omega) (by omega)) (by omega) ?_
                refine P_iinc4 (pc' := 84) dX7_gives_81 rfl (nI_1 tp) (by decide) rfl ?_
                refine P_goto (tgt := 168) dX7_gives_84 rfl ?_
                refine P_iinc5 (pc' := 171) dX7_gives_168 rfl eN (by decide) rfl ?_
                refine P_goto (tgt := 6) dX7_gives_171 rfl ?_
                first
                  | exact go (tp, st) _ _ (by unfold gvS; dsimp only; rw [if_neg h29, if_neg (Nat.not_lt.mpr (g2 h39 (by omega) (by omega)))]) rfl
                  | exact go (tp + 1, upd st tp k) _ _ (by unfold gvS; dsimp only; rw [if_neg h29, if_pos (g0 h39 (by omega) (by omega)), if_neg h50]) (sR_u _ _ _ _ _)
                  | exact go (tp + 1, upd st tp f) _ _ (by unfold gvS; dsimp only; rw [if_neg h29, if_pos (g0 h39 (by omega) (by omega)), if_pos h50, if_pos h61]) (sR_u _ _ _ _ _)
                  | exact go (tp + 1, upd st tp s) _ _ (by unfold gvS; dsimp only; rw [if_neg h29, if_pos (g0 h39 (by omega) (by omega)), if_pos h50, if_neg h61, if_pos h72]) (sR_u _ _ _ _ _)
                  | exact go (tp + 1, upd st tp th) _ _ (by unfold gvS; dsimp only; rw [if_neg h29, if_pos (g0 h39 (by omega) (by omega)), if_pos h50, if_neg h61, if_neg h72]) (sR_u _ _ _ _ _)
                  | exact go (tp, st) _ _ (by unfold gvS; dsimp only; rw [if_pos h29, if_pos h91, if_pos (Nat.le_zero.mp (g2 (a := 0) (b := tp) h96 (by omega) (by omega)))]) rfl
                  | exact go (tp, upd st (tp - 1) (if st (tp - 1) = 0 then 1 else 0)) _ _ (by unfold gvS; dsimp only; rw [if_pos h29, if_pos h91, if_neg (by have := gz h96; omega)]) (by rw [sR_u]; rw [sR_s] at h116; simp [h116])
                  | exact go (tp, st) _ _ (by unfold gvS; dsimp only; rw [if_pos h29, if_neg h91, if_pos (g2 (a := 1) (b := tp) h131 (by omega) (by omega))]) rfl
                  | exact go (tp - 1, upd st (tp - 2) (jn (-k) (st (tp - 2)) (st (tp - 1)))) _ _ (by unfold gvS; dsimp only; rw [if_pos h29, if_neg h91, if_neg (by have := go1 h131; omega)]) (by rw [sR_u, sR_s])
              · refine P_iload2 (pc' := 76) dX7_gives_75 rfl ?_
                refine P_goto (tgt := 80) dX7_gives_76 rfl ?_
                refine P_iast (pc' := 81) dX7_gives_80 rfl (by omega) t6 (j := tp) rfl (g0 h39 (by omega) (by omega)) (by omega) ?_
                refine P_iinc4 (pc' := 84) dX7_gives_81 rfl (nI_1 tp) (by decide) rfl ?_
                refine P_goto (tgt := 168) dX7_gives_84 rfl ?_
                refine P_iinc5 (pc' := 171) dX7_gives_168 rfl eN (by decide) rfl ?_
                refine P_goto (tgt := 6) dX7_gives_171 rfl ?_
                first
                  | exact go (tp, st) _ _ (by unfold gvS; dsimp only; rw [if_neg h29, if_neg (Nat.not_lt.mpr (g2 h39 (by omega) (by omega)))]) rfl
                  | exact go (tp + 1, upd st tp k) _ _ (by unfold gvS; dsimp only; rw [if_neg h29, if_pos (g0 h39 (by omega) (by omega)), if_neg h50]) (sR_u _ _ _ _ _)
                  | exact go (tp + 1, upd st tp f) _ _ (by unfold gvS; dsimp only; rw [if_neg h29, if_pos (g0 h39 (by omega) (by omega)), if_pos h50, if_pos h61]) (sR_u _ _ _ _ _)
                  | exact go (tp + 1, upd st tp s) _ _ (by unfold gvS; dsimp only; rw [if_neg h29, if_pos (g0 h39 (by omega) (by omega)), if_pos h50, if_neg h61, if_pos h72]) (sR_u _ _ _ _ _)
                  | exact go (tp + 1, upd st tp th) _ _ (by unfold gvS; dsimp only; rw [if_neg h29, if_pos (g0 h39 (by omega) (by omega)), if_pos h50, if_neg h61, if_neg h72]) (sR_u _ _ _ _ _)
                  | exact go (tp, st) _ _ (by unfold gvS; dsimp only; rw [if_pos h29, if_pos h91, if_pos (Nat.le_zero.mp (g2 (a := 0) (b := tp) h96 (by omega) (by omega)))]) rfl
                  | exact go (tp, upd st (tp - 1) (if st (tp - 1) = 0 then 1 else 0)) _ _ (by unfold gvS; dsimp only; rw [if_pos h29, if_pos h91, if_neg (by have := gz h96; omega)]) (by rw [sR_u]; rw [sR_s] at h116; simp [h116])
                  | exact go (tp, st) _ _ (by unfold gvS; dsimp only; rw [if_pos h29, if_neg h91, if_pos (g2 (a := 1) (b := tp) h131 (by omega) (by omega))]) rfl
                  | exact go (tp - 1, upd st (tp - 2) (jn (-k) (st (tp - 2)) (st (tp - 1)))) _ _ (by unfold gvS; dsimp only; rw [if_pos h29, if_neg h91, if_neg (by have := go1 h131; omega)]) (by rw [sR_u, sR_s])
            · refine P_iload1 (pc' := 65) dX7_gives_64 rfl ?_
              refine P_goto (tgt := 80) dX7_gives_65 rfl ?_
              refine P_iast (pc' := 81) dX7_gives_80 rfl (by omega) t6 (j := tp) rfl (g0 h39 (by omega) (by omega)) (by omega) ?_
              refine P_iinc4 (pc' := 84) dX7_gives_81 rfl (nI_1 tp) (by decide) rfl ?_
              refine P_goto (tgt := 168) dX7_gives_84 rfl ?_
              refine P_iinc5 (pc' := 171) dX7_gives_168 rfl eN (by decide) rfl ?_
              refine P_goto (tgt := 6) dX7_gives_171 rfl ?_
              first
                | exact go (tp, st) _ _ (by unfold gvS; dsimp only; rw [if_neg h29, if_neg (Nat.not_lt.mpr (g2 h39 (by omega) (by omega)))]) rfl
                | exact go (tp + 1, upd st tp k) _ _ (by unfold gvS; dsimp only; rw [if_neg h29, if_pos (g0 h39 (by omega) (by omega)), if_neg h50]) (sR_u _ _ _ _ _)
                | exact go (tp + 1, upd st tp f) _ _ (by unfold gvS; dsimp only; rw [if_neg h29, if_pos (g0 h39 (by omega) (by omega)), if_pos h50, if_pos h61]) (sR_u _ _ _ _ _)
                | exact go (tp + 1, upd st tp s) _ _ (by unfold gvS; dsimp only; rw [if_neg h29, if_pos (g0 h39 (by omega) (by omega)), if_pos h50, if_neg h61, if_pos h72]) (sR_u _ _ _ _ _)
                | exact go (tp + 1, upd st tp th) _ _ (by unfold gvS; dsimp only; rw [if_neg h29, if_pos (g0 h39 (by omega) (by omega)), if_pos h50, if_neg h61, if_neg h72]) (sR_u _ _ _ _ _)
                | exact go (tp, st) _ _ (by unfold gvS; dsimp only; rw [if_pos h29, if_pos h91, if_pos (Nat.le_zero.mp (g2 (a := 0) (b := tp) h96 (by omega) (by omega)))]) rfl
                | exact go (tp, upd st (tp - 1) (if st (tp - 1) = 0 then 1 else 0)) _ _ (by unfold gvS; dsimp only; rw [if_pos h29, if_pos h91, if_neg (by have := gz h96; omega)]) (by rw [sR_u]; rw [sR_s] at h116; simp [h116])
                | exact go (tp, st) _ _ (by unfold gvS; dsimp only; rw [if_pos h29, if_neg h91, if_pos (g2 (a := 1) (b := tp) h131 (by omega) (by omega))]) rfl
                | exact go (tp - 1, upd st (tp - 2) (jn (-k) (st (tp - 2)) (st (tp - 1)))) _ _ (by unfold gvS; dsimp only; rw [if_pos h29, if_neg h91, if_neg (by have := go1 h131; omega)]) (by rw [sR_u, sR_s])
          · refine P_iload6 (pc' := 55) dX7_gives_53 rfl ?_
            refine P_goto (tgt := 80) dX7_gives_55 rfl ?_
            refine P_iast (pc' := 81) dX7_gives_80 rfl (by omega) t6 (j := tp) rfl (g0 h39 (by omega) (by omega)) (by omega) ?_
            refine P_iinc4 (pc' := 84) dX7_gives_81 rfl (nI_1 tp) (by decide) rfl ?_
            refine P_goto (tgt := 168) dX7_gives_84 rfl ?_
            refine P_iinc5 (pc' := 171) dX7_gives_168 rfl eN (by decide) rfl ?_
            refine P_goto (tgt := 6) dX7_gives_171 rfl ?_
            first
              | exact go (tp, st) _ _ (by unfold gvS; dsimp only; rw [if_neg h29, if_neg (Nat.not_lt.mpr (g2 h39 (by omega) (by omega)))]) rfl
              | exact go (tp + 1, upd st tp k) _ _ (by unfold gvS; dsimp only; rw [if_neg h29, if_pos (g0 h39 (by omega) (by omega)), if_neg h50]) (sR_u _ _ _ _ _)
              | exact go (tp + 1, upd st tp f) _ _ (by unfold gvS; dsimp only; rw [if_neg h29, if_pos (g0 h39 (by omega) (by omega)), if_pos h50, if_pos h61]) (sR_u _ _ _ _ _)
              | exact go (tp + 1, upd st tp s) _ _ (by unfold gvS; dsimp only; rw [if_neg h29, if_pos (g0 h39 (by omega) (by omega)), if_pos h50, if_neg h61, if_pos h72]) (sR_u _ _ _ _ _)
              | exact go (tp + 1, upd st tp th) _ _ (by unfold gvS; dsimp only; rw [if_neg h29, if_pos (g0 h39 (by omega) (by omega)), if_pos h50, if_neg h61, if_neg h72]) (sR_u _ _ _ _ _)
              | exact go (tp, st) _ _ (by unfold gvS; dsimp only; rw [if_pos h29, if_pos h91, if_pos (Nat.le_zero.mp (g2 (a := 0) (b := tp) h96 (by omega) (by omega)))]) rfl
              | exact go (tp, upd st (tp - 1) (if st (tp - 1) = 0 then 1 else 0)) _ _ (by unfold gvS; dsimp only; rw [if_pos h29, if_pos h91, if_neg (by have := gz h96; omega)]) (by rw [sR_u]; rw [sR_s] at h116; simp [h116])
              | exact go (tp, st) _ _ (by unfold gvS; dsimp only; rw [if_pos h29, if_neg h91, if_pos (g2 (a := 1) (b := tp) h131 (by omega) (by omega))]) rfl
              | exact go (tp - 1, upd st (tp - 2) (jn (-k) (st (tp - 2)) (st (tp - 1)))) _ _ (by unfold gvS; dsimp only; rw [if_pos h29, if_neg h91, if_neg (by have := go1 h131; omega)]) (by rw [sR_u, sR_s])
theorem c_X7_gives {G : GX} {S : Shp} {I : Mem} {d t len sz : Nat} {steps : Nat → Int32} (hT : TxOk S I t len sz steps) (f s th : Int32) (hd : 1 ≤ d) : PM G yX7_gives cX7_gives 7 (some .int) d 0 0 [.ref t, .int f, .int s, .int th] S I (Rm S (sR I (t + 2) (gvG f s th sz steps len 0 (0, I (t + 2))).2) ((gvG f s th sz steps len 0 (0, I (t + 2))).2 0)) := by
  refine PM.of (ls := [some (.ref t), some (.int f), some (.int s), some (.int th), none, none, none]) (by decide) rfl (Nat.le_of_ble_eq_true rfl) rfl ?_
  show PW G RX7 "gives" _ _ _ _ _ _ _ _ _ _ _ _
  refine P_iconst (pc' := 1) dX7_gives_0 rfl (v := 0) rfl ?_
  refine P_istore4 (pc' := 3) dX7_gives_1 rfl (by decide) rfl ?_
  refine P_iconst (pc' := 4) dX7_gives_3 rfl (v := 0) rfl ?_
  refine P_istore5 (pc' := 6) dX7_gives_4 rfl (by decide) rfl ?_
  have h := lp_X7_gives (G := G) (d := d) (f := f) (s := s) (th := th) (Q := Rm S (sR I (t + 2) (gvG f s th sz steps len 0 (0, I (t + 2))).2) ((gvG f s th sz steps len 0 (0, I (t + 2))).2 0)) hT hd len 0 (0, I (t + 2)) (by omega) (Nat.zero_le _) ⟨rfl, rfl, rfl⟩
  have e : sR I (t + 2) (I (t + 2)) = I := sR_self I (t + 2)
  rw [e] at h
  exact h

