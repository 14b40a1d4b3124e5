/-! copies of sheets -/
def cpS (T : Mem) (s j t a m : Nat) : Mem := sR T 70 (fun k => if 24 * t + a ≤ k ∧ k < 24 * t + a + m then T 70 (24 * s + j + (k - (24 * t + a))) else T 70 k)
def hasI (n p q : Int32) : Int32 := if wi p 0 n = 0 then 0 else wi q 0 (n - p)
def oCop (T : Mem) (s j t a m : Int32) : Int32 × Mem := if wi s 0 3 = 0 then (-1000000001, T) else if wi t 0 3 = 0 then (-1000000001, T) else if T 68 s.toNatClampNeg = -1 then (-1000000011, T) else if T 68 t.toNatClampNeg = -1 then (-1000000011, T) else if T 68 s.toNatClampNeg = T 68 t.toNatClampNeg then (if hasI (T 69 s.toNatClampNeg) j m = 0 then (-1000000013, T) else if hasI (T 69 t.toNatClampNeg) a m = 0 then (-1000000013, T) else (m, cpS T s.toNatClampNeg j.toNatClampNeg t.toNatClampNeg a.toNatClampNeg m.toNatClampNeg)) else (-1000000012, T)
theorem hasI_n {n : Nat} {p q : Int32} (hn : n ≤ 24) (h : ¬ hasI (nI n) p q = 0) : ∃ a b, a + b ≤ n ∧ p = nI a ∧ q = nI b := by
  unfold hasI at h
  by_cases h1 : wi p 0 (nI n) = 0
  · rw [if_pos h1] at h; exact absurd rfl h
  · rw [if_neg h1] at h
    obtain ⟨a, ha, rfl⟩ := wi_b (by omega) h1
    rw [pk_sub ha] at h
    obtain ⟨b, hb, rfl⟩ := wi_b (by omega) h
    exact ⟨a, b, by omega, rfl, rfl⟩
theorem K.cp {S : Shp} {I T : Mem} {tn bn s j t a m : Nat} {tx : Nat → Tx} (h : K S I T tn bn tx) (hs : s < 4) (ht : t < 4) (hj : j + m ≤ 24) (ha : a + m ≤ 24) : K S (fun x => if x = 32 + 2 * t + 1 then va_cpy (I (32 + 2 * s + 1)) (I (32 + 2 * t + 1)) j a m else I x) (cpS T s j t a m) tn bn tx := by
  have hSs := h.1.2.2.2.2.1 s hs
  have hCs := h.2.2.2.2.2.2.1 s hs
  have hS := h.1.2.2.2.2.1 t ht
  have hC := h.2.2.2.2.2.2.1 t ht
  refine h.sh1 (i := t) (q := T 68 t) (p := T 69 t) (f := fun k => if a ≤ k ∧ k < a + m then T 70 (24 * s + (j + (k - a))) else T 70 (24 * t + k)) ht hS.1 hS.2.1 (fun k hk => ?_) (fun x h1 h2 => ?_) ?_ ?_ (fun k hk => ?_) (fun x h1 h2 h3 => ?_) ?_ (fun k hk => ?_) ?_ (fun k hk => ?_) (fun k hk => ?_) (fun k hk => ?_)
  · show (if a ≤ k ∧ k < a + m then T 70 (24 * s + (j + (k - a))) else T 70 (24 * t + k)) = _ ∨ _
    by_cases q : a ≤ k ∧ k < a + m
    · rw [if_pos q]; exact hSs.2.2 _ (by omega)
    · rw [if_neg q]; exact hS.2.2 k hk
  · exact if_neg (by omega)
  · rw [if_neg (by omega)]; exact hC.1
  · rw [if_neg (by omega)]; exact hC.2.1
  · show (if 33 + 2 * t = 32 + 2 * t + 1 then va_cpy (I (32 + 2 * s + 1)) (I (32 + 2 * t + 1)) j a m else I (33 + 2 * t)) k = if a ≤ k ∧ k < a + m then T 70 (24 * s + (j + (k - a))) else T 70 (24 * t + k)
    rw [if_pos (by omega)]
    by_cases q : a ≤ k ∧ k < a + m
    · rw [if_pos q, pk_cpy_in q.1 q.2, show 32 + 2 * s + 1 = 33 + 2 * s by omega]; exact hCs.2.2 _ (by omega)
    · rw [if_neg q, pk_cpy_out (by omega), show 32 + 2 * t + 1 = 33 + 2 * t by omega]; exact hC.2.2 k hk
  · exact sR_n h3
  · exact congrFun (sR_n (by decide)) t
  · exact congrFun (sR_n (by decide)) k
  · exact congrFun (sR_n (by decide)) t
  · exact congrFun (sR_n (by decide)) k
  · unfold cpS
    rw [sR_s]
    show (if 24 * t + a ≤ 24 * t + k ∧ 24 * t + k < 24 * t + a + m then T 70 (24 * s + j + (24 * t + k - (24 * t + a))) else T 70 (24 * t + k)) = if a ≤ k ∧ k < a + m then T 70 (24 * s + (j + (k - a))) else T 70 (24 * t + k)
    by_cases q : a ≤ k ∧ k < a + m
    · rw [if_pos q, if_pos (by omega), show 24 * s + j + (24 * t + k - (24 * t + a)) = 24 * s + (j + (k - a)) by omega]
    · rw [if_neg q, if_neg (by omega)]
  · unfold cpS
    rw [sR_s]
    exact if_neg (by omega)
theorem x_copy {G : GX} {S : Shp} {I T : Mem} {d tn bn : Nat} {tx : Nat → Tx} (hK : K S I T tn bn tx) (s j t a m : Int32) (hd : 12 ≤ d) : PM G yX8_copy cX8_copy 8 (some .int) d 0 0 [.ref 0, .int s, .int j, .int t, .int a, .int m] S I (CO I (oCop T s j t a m).2 tn bn tx (oCop T s j t a m).1) := by
  have hsh := hK.2.1
  refine PM.of (ls := [some (.ref 0), some (.int s), some (.int j), some (.int t), some (.int a), some (.int m), none, none]) (by decide) rfl (Nat.le_of_ble_eq_true rfl) rfl ?_
  show PW G RX8 "copy" _ _ _ _ _ _ _ _ _ _ _ _
  by_cases hs : wi s 0 3 = 0
  · have eo : oCop T s j t a m = (-1000000001, T) := if_pos hs
    refine P_iload1 (pc' := 1) dX8_copy_0 rfl ?_
    refine P_callS1 (pc' := 4) dX8_copy_1 rfl lk_X8_203 (c_X8_isSheet (d := 1) s (by omega)) (by omega) (Nat.le_of_ble_eq_true rfl) (fun r S' I' hq => ?_)
    obtain ⟨rfl, rfl, rfl⟩ := hq
    refine P_if_eq (tgt := 14) (pc' := 7) dX8_copy_4 rfl rfl (fun h4 => ?_) (fun h4 => ?_)
    · refine P_ldc (pc' := 16) dX8_copy_14 rfl co_X8_81 ?_
      refine P_iret dX8_copy_16 ?_
      exact CO.n eo hK
    · exact absurd hs h4
  by_cases ht : wi t 0 3 = 0
  · have eo : oCop T s j t a m = (-1000000001, T) := (if_neg hs).trans (if_pos ht)
    refine P_iload1 (pc' := 1) dX8_copy_0 rfl ?_
    refine P_callS1 (pc' := 4) dX8_copy_1 rfl lk_X8_203 (c_X8_isSheet (d := 1) s (by omega)) (by omega) (Nat.le_of_ble_eq_true rfl) (fun r S' I' hq => ?_)
    obtain ⟨rfl, rfl, rfl⟩ := hq
    refine P_if_eq (tgt := 14) (pc' := 7) dX8_copy_4 rfl rfl (fun h4 => ?_) (fun h4 => ?_)
    · exact absurd h4 hs
    · refine P_iload3 (pc' := 8) dX8_copy_7 rfl ?_
      refine P_callS1 (pc' := 11) dX8_copy_8 rfl lk_X8_203 (c_X8_isSheet (d := 1) t (by omega)) (by omega) (Nat.le_of_ble_eq_true rfl) (fun r S' I' hq => ?_)
      obtain ⟨rfl, rfl, rfl⟩ := hq
      refine P_if_ne (tgt := 17) (pc' := 14) dX8_copy_11 rfl rfl (fun h11 => ?_) (fun h11 => ?_)
      · exact absurd ht h11
      · refine P_ldc (pc' := 16) dX8_copy_14 rfl co_X8_81 ?_
        refine P_iret dX8_copy_16 ?_
        exact CO.n eo hK
  obtain ⟨i, hi, rfl⟩ := wi_b (m := 3) (by decide) hs
  obtain ⟨l, hl, rfl⟩ := wi_b (m := 3) (by decide) ht
  obtain ⟨s1, ⟨n, hn, s2⟩, s3⟩ := hK.1.2.2.2.2.1 i (by omega)
  obtain ⟨c1, c2, c3⟩ := hK.2.2.2.2.2.2.1 i (by omega)
  obtain ⟨t1, ⟨u, hu, t2⟩, t3⟩ := hK.1.2.2.2.2.1 l (by omega)
  obtain ⟨b1, b2, b3⟩ := hK.2.2.2.2.2.2.1 l (by omega)
  have eo : oCop T (nI i) j (nI l) a m = if T 68 i = -1 then (-1000000011, T) else if T 68 l = -1 then (-1000000011, T) else if T 68 i = T 68 l then (if hasI (nI n) j m = 0 then (-1000000013, T) else if hasI (nI u) a m = 0 then (-1000000013, T) else (m, cpS T i j.toNatClampNeg l a.toNatClampNeg m.toNatClampNeg)) else (-1000000012, T) := by unfold oCop; rw [if_neg hs, if_neg ht, nI_clamp (by omega), nI_clamp (by omega), s2, t2]
  have w1 : (if wi j 0 (I (32 + 2 * i) 1) = 0 then 0 else wi m 0 (I (32 + 2 * i) 1 - j)) = hasI (nI n) j m := by rw [c2, s2]; rfl
  have w2 : (if wi a 0 (I (32 + 2 * l) 1) = 0 then 0 else wi m 0 (I (32 + 2 * l) 1 - a)) = hasI (nI u) a m := by rw [b2, t2]; rfl
  have m1 : ∀ {x : Int32}, ¬ (if x = -1 then (1 : Int32) else 0) = 0 → x = -1 := fun z => Classical.byContradiction (fun q => z (if_neg q))
  have m2 : ∀ {x : Int32}, (if x = -1 then (1 : Int32) else 0) = 0 → ¬ x = -1 := fun z q => by rw [if_pos q] at z; exact absurd z (by decide)
  refine P_iload1 (pc' := 1) dX8_copy_0 rfl ?_
  refine P_callS1 (pc' := 4) dX8_copy_1 rfl lk_X8_203 (c_X8_isSheet (d := 1) _ (by omega)) (by omega) (Nat.le_of_ble_eq_true rfl) (fun r S' I' hq => ?_)
  obtain ⟨rfl, rfl, rfl⟩ := hq
  refine P_if_eq (tgt := 14) (pc' := 7) dX8_copy_4 rfl rfl (fun h4 => ?_) (fun h4 => ?_)
  · exact absurd h4 hs
  · refine P_iload3 (pc' := 8) dX8_copy_7 rfl ?_
    refine P_callS1 (pc' := 11) dX8_copy_8 rfl lk_X8_203 (c_X8_isSheet (d := 1) _ (by omega)) (by omega) (Nat.le_of_ble_eq_true rfl) (fun r S' I' hq => ?_)
    obtain ⟨rfl, rfl, rfl⟩ := hq
    refine P_if_ne (tgt := 17) (pc' := 14) dX8_copy_11 rfl rfl (fun h11 => ?_) (fun h11 => ?_)
    · refine P_aload0 (pc' := 18) dX8_copy_17 rfl ?_
      refine P_getr (pc' := 21) dX8_copy_18 rfl fl_X8_53 rfl (l_0 hsh) (t_0 hsh) (q_0_8 hsh) ?_
      refine P_iload1 (pc' := 22) dX8_copy_21 rfl ?_
      refine P_aald13 (pc' := 23) dX8_copy_22 rfl (l_29 hsh) (t_29 hsh) (j := i) rfl (by omega) (by decide) (sh_q hsh (by omega)) ?_
      refine P_astore6 (pc' := 25) dX8_copy_23 rfl (by decide) rfl ?_
      refine P_aload0 (pc' := 26) dX8_copy_25 rfl ?_
      refine P_getr (pc' := 29) dX8_copy_26 rfl fl_X8_53 rfl (l_0 hsh) (t_0 hsh) (q_0_8 hsh) ?_
      refine P_iload3 (pc' := 30) dX8_copy_29 rfl ?_
      refine P_aald13 (pc' := 31) dX8_copy_30 rfl (l_29 hsh) (t_29 hsh) (j := l) rfl (by omega) (by decide) (sh_q hsh (by omega)) ?_
      refine P_astore7 (pc' := 33) dX8_copy_31 rfl (by decide) rfl ?_
      refine P_aload6 (pc' := 35) dX8_copy_33 rfl ?_
      refine P_callV0 (pc' := 38) dX8_copy_35 rfl lk_X8_206 (sh_o hsh (show i < 4 by omega)).1 (sh_o hsh (show i < 4 by omega)).2.2.1 (c_X3_isMissing (d := 2) (sh_o hsh (by omega))) (by omega) (Nat.le_of_ble_eq_true rfl) (fun r S' I' hq => ?_)
      obtain ⟨rfl, rfl, rfl⟩ := hq
      rw [c1]
      refine P_if_ne (tgt := 49) (pc' := 41) dX8_copy_38 rfl rfl (fun h38 => ?_) (fun h38 => ?_)
      · refine P_ldc (pc' := 51) dX8_copy_49 rfl co_X8_209 ?_
        refine P_iret dX8_copy_51 ?_
        first
          | exact CO.n (eo.trans (if_pos (m1 h38))) hK
          | exact CO.n (eo.trans ((if_neg (m2 h38)).trans (if_pos (m1 h46)))) hK
      · refine P_aload7 (pc' := 43) dX8_copy_41 rfl ?_
        refine P_callV0 (pc' := 46) dX8_copy_43 rfl lk_X8_206 (sh_o hsh (show l < 4 by omega)).1 (sh_o hsh (show l < 4 by omega)).2.2.1 (c_X3_isMissing (d := 2) (sh_o hsh (by omega))) (by omega) (Nat.le_of_ble_eq_true rfl) (fun r S' I' hq => ?_)
        obtain ⟨rfl, rfl, rfl⟩ := hq
        rw [b1]
        refine P_if_eq (tgt := 52) (pc' := 49) dX8_copy_46 rfl rfl (fun h46 => ?_) (fun h46 => ?_)
        · refine P_aload6 (pc' := 54) dX8_copy_52 rfl ?_
          refine P_geti (pc' := 57) dX8_copy_54 rfl fl_X8_247 rfl (sh_o hsh (show i < 4 by omega)).1 (sh_o hsh (show i < 4 by omega)).2.2.1 ?_
          refine P_as c1 ?_
          refine P_aload7 (pc' := 59) dX8_copy_57 rfl ?_
          refine P_geti (pc' := 62) dX8_copy_59 rfl fl_X8_247 rfl (sh_o hsh (show l < 4 by omega)).1 (sh_o hsh (show l < 4 by omega)).2.2.1 ?_
          refine P_as b1 ?_
          refine P_icmp_eq (tgt := 68) (pc' := 65) dX8_copy_62 rfl rfl (fun h62 => ?_) (fun h62 => ?_)
          · refine P_aload6 (pc' := 70) dX8_copy_68 rfl ?_
            refine P_iload2 (pc' := 71) dX8_copy_70 rfl ?_
            refine P_iload5 (pc' := 73) dX8_copy_71 rfl ?_
            refine P_callV2 (pc' := 76) dX8_copy_73 rfl lk_X8_262 (sh_o hsh (show i < 4 by omega)).1 (sh_o hsh (show i < 4 by omega)).2.2.1 (c_X3_hasAll (d := 2) j m (sh_o hsh (by omega)) (by omega)) (by omega) (Nat.le_of_ble_eq_true rfl) (fun r S' I' hq => ?_)
            obtain ⟨rfl, rfl, rfl⟩ := hq
            refine P_as w1 ?_
            refine P_if_eq (tgt := 91) (pc' := 79) dX8_copy_76 rfl rfl (fun h76 => ?_) (fun h76 => ?_)
            · refine P_ldc (pc' := 93) dX8_copy_91 rfl co_X8_246 ?_
              refine P_iret dX8_copy_93 ?_
              first
                | exact CO.n (eo.trans ((if_neg (m2 h38)).trans ((if_neg (m2 h46)).trans ((if_pos h62).trans (if_pos h76))))) hK
                | exact CO.n (eo.trans ((if_neg (m2 h38)).trans ((if_neg (m2 h46)).trans ((if_pos h62).trans ((if_neg h76).trans (if_pos h88)))))) hK
            · refine P_aload7 (pc' := 81) dX8_copy_79 rfl ?_
              refine P_iload4 (pc' := 83) dX8_copy_81 rfl ?_
              refine P_iload5 (pc' := 85) dX8_copy_83 rfl ?_
              refine P_callV2 (pc' := 88) dX8_copy_85 rfl lk_X8_262 (sh_o hsh (show l < 4 by omega)).1 (sh_o hsh (show l < 4 by omega)).2.2.1 (c_X3_hasAll (d := 2) a m (sh_o hsh (by omega)) (by omega)) (by omega) (Nat.le_of_ble_eq_true rfl) (fun r S' I' hq => ?_)
              obtain ⟨rfl, rfl, rfl⟩ := hq
              refine P_as w2 ?_
              refine P_if_ne (tgt := 94) (pc' := 91) dX8_copy_88 rfl rfl (fun h88 => ?_) (fun h88 => ?_)
              · obtain ⟨j1, m3, h24, rfl, rfl⟩ := hasI_n hn h76
                obtain ⟨a1, m4, h25, rfl, e4⟩ := hasI_n hu h88
                have e5 := (nI_eq (by omega) (by omega)).mp e4
                subst e5
                rw [nI_clamp (by omega), nI_clamp (by omega), nI_clamp (by omega)] at eo
                refine P_aload6 (pc' := 96) dX8_copy_94 rfl ?_
                refine P_getr (pc' := 99) dX8_copy_96 rfl fl_X8_252 rfl (sh_o hsh (show i < 4 by omega)).1 (sh_o hsh (show i < 4 by omega)).2.2.1 (sh_o hsh (show i < 4 by omega)).2.2.2.2 ?_
                refine P_iload2 (pc' := 100) dX8_copy_99 rfl ?_
                refine P_aload7 (pc' := 102) dX8_copy_100 rfl ?_
                refine P_getr (pc' := 105) dX8_copy_102 rfl fl_X8_252 rfl (sh_o hsh (show l < 4 by omega)).1 (sh_o hsh (show l < 4 by omega)).2.2.1 (sh_o hsh (show l < 4 by omega)).2.2.2.2 ?_
                refine P_iload4 (pc' := 107) dX8_copy_105 rfl ?_
                refine P_iload5 (pc' := 109) dX8_copy_107 rfl ?_
                refine P_copy (pc' := 112) dX8_copy_109 rfl lk_X8_265 (sh_o hsh (show i < 4 by omega)).2.1 (sh_o hsh (show i < 4 by omega)).2.2.2.1 (sh_o hsh (show l < 4 by omega)).2.1 (sh_o hsh (show l < 4 by omega)).2.2.2.1 (sp := j1) (dp := a1) (n := m3) rfl rfl rfl (by omega) (by omega) (by decide) (by decide) (by omega) (Nat.le_of_ble_eq_true rfl) ?_
                refine P_iload5 (pc' := 114) dX8_copy_112 rfl ?_
                refine P_iret dX8_copy_114 ?_
                exact CO.m (eo.trans ((if_neg (m2 h38)).trans ((if_neg (m2 h46)).trans ((if_pos h62).trans ((if_neg h76).trans (if_neg h88)))))) (hK.cp (by omega) (by omega) (by omega) (by omega)) (fun x h1 h2 => if_neg (by omega))
              · refine P_ldc (pc' := 93) dX8_copy_91 rfl co_X8_246 ?_
                refine P_iret dX8_copy_93 ?_
                first
                  | exact CO.n (eo.trans ((if_neg (m2 h38)).trans ((if_neg (m2 h46)).trans ((if_pos h62).trans (if_pos h76))))) hK
                  | exact CO.n (eo.trans ((if_neg (m2 h38)).trans ((if_neg (m2 h46)).trans ((if_pos h62).trans ((if_neg h76).trans (if_pos h88)))))) hK
          · refine P_ldc (pc' := 67) dX8_copy_65 rfl co_X8_135 ?_
            refine P_iret dX8_copy_67 ?_
            exact CO.n (eo.trans ((if_neg (m2 h38)).trans ((if_neg (m2 h46)).trans (if_neg h62)))) hK
        · refine P_ldc (pc' := 51) dX8_copy_49 rfl co_X8_209 ?_
          refine P_iret dX8_copy_51 ?_
          first
            | exact CO.n (eo.trans (if_pos (m1 h38))) hK
            | exact CO.n (eo.trans ((if_neg (m2 h38)).trans (if_pos (m1 h46)))) hK
    · exact absurd h11 ht
/-! slots -/
theorem K.sl1 {S : Shp} {I J T U : Mem} {tn bn i : Nat} {tx : Nat → Tx} (h : K S I T tn bn tx) (hi : i < 5) (hJo : ∀ x, x ≠ 40 + 3 * i → x ≠ 41 + 3 * i → x ≠ 42 + 3 * i → J x = I x) (hUo : ∀ x, x < 71 ∨ 74 < x → U x = T x) (hU : ∀ j, j ≠ i → U 71 j = T 71 j ∧ U 72 j = T 72 j ∧ U 73 j = T 73 j) (hU4 : ∀ j, (j < 24 * i ∨ 24 * i + 24 ≤ j) → U 74 j = T 74 j)
    (hk : (U 71 i = 0 ∨ U 71 i = 1 ∨ U 71 i = 2 ∨ U 71 i = 3) ∧ (U 71 i = 2 → ∃ n, n ≤ 24 ∧ U 72 i = nI n) ∧ (U 71 i = 1 → isK (U 72 i)))
    (hc : J (40 + 3 * i) 0 = U 71 i ∧ (U 71 i = 1 → J (40 + 3 * i) 1 = U 72 i ∧ U 73 i = kWorth (J (40 + 3 * i) 1) (J (40 + 3 * i) 2)) ∧ (U 71 i = 2 → J (41 + 3 * i) 1 = U 72 i ∧ ∀ k, k < 24 → J (42 + 3 * i) k = U 74 (24 * i + k)) ∧ (U 71 i = 3 → J (40 + 3 * i) 3 = U 72 i)) : K S J U tn bn tx := by
  have hS := h.1.2.2.2.2.2.1
  have hC := h.2.2.2.2.2.2.2.1
  refine h.slot (fun x hx => hJo x (by omega) (by omega) (by omega)) hUo (fun j hj => ?_) (fun j hj => ?_)
  · by_cases e : j = i
    · subst e; exact hk
    · rw [(hU j e).1, (hU j e).2.1]; exact hS j hj
  · by_cases e : j = i
    · subst e; exact hc
    · rw [(hU j e).1, (hU j e).2.1, (hU j e).2.2, hJo (40 + 3 * j) (by omega) (by omega) (by omega), hJo (41 + 3 * j) (by omega) (by omega) (by omega), hJo (42 + 3 * j) (by omega) (by omega) (by omega)]
      obtain ⟨b1, b2, b3, b4⟩ := hC j hj
      exact ⟨b1, b2, fun z => ⟨(b3 z).1, fun k hk => by rw [hU4 _ (by omega)]; exact (b3 z).2 k hk⟩, b4⟩
def vAsk (T : Mem) (b k : Int32) : Int32 := if wi b 0 4 = 0 then -1000000001 else if wi k 0 5 = 0 then -1000000001 else if T 71 b.toNatClampNeg = 0 then -1000000011 else if T 71 b.toNatClampNeg = 1 then (if ofF 6 (T 72 b.toNatClampNeg) k = 0 then -1000000012 else T 73 b.toNatClampNeg) else -1000000012
theorem x_ask {G : GX} {S : Shp} {I T : Mem} {d tn bn : Nat} {tx : Nat → Tx} (hK : K S I T tn bn tx) (b k : Int32) (hd : 12 ≤ d) : PM G yX8_ask cX8_ask 4 (some .int) d 0 0 [.ref 0, .int b, .int k] S I (CO I T tn bn tx (vAsk T b k)) := by
  have hsh := hK.2.1
  refine PM.of (ls := [some (.ref 0), some (.int b), some (.int k), none]) (by decide) rfl (Nat.le_of_ble_eq_true rfl) rfl ?_
  show PW G RX8 "ask" _ _ _ _ _ _ _ _ _ _ _ _
  by_cases hb : wi b 0 4 = 0
  · rw [show vAsk T b k = -1000000001 from if_pos hb]
    refine P_iload1 (pc' := 1) dX8_ask_0 rfl ?_
    refine P_callS1 (pc' := 4) dX8_ask_1 rfl lk_X8_271 (c_X8_isSlot (d := 1) b (by omega)) (by omega) (Nat.le_of_ble_eq_true rfl) (fun r S' I' hq => ?_)
    obtain ⟨rfl, rfl, rfl⟩ := hq
    refine P_if_eq (tgt := 14) (pc' := 7) dX8_ask_4 rfl rfl (fun h4 => ?_) (fun h4 => ?_)
    · refine P_ldc (pc' := 16) dX8_ask_14 rfl co_X8_81 ?_
      refine P_iret dX8_ask_16 ?_
      exact CO.id hK
    · exact absurd hb h4
  by_cases hk : wi k 0 5 = 0
  · rw [show vAsk T b k = -1000000001 from (if_neg hb).trans (if_pos hk)]
    refine P_iload1 (pc' := 1) dX8_ask_0 rfl ?_
    refine P_callS1 (pc' := 4) dX8_ask_1 rfl lk_X8_271 (c_X8_isSlot (d := 1) b (by omega)) (by omega) (Nat.le_of_ble_eq_true rfl) (fun r S' I' hq => ?_)
    obtain ⟨rfl, rfl, rfl⟩ := hq
    refine P_if_eq (tgt := 14) (pc' := 7) dX8_ask_4 rfl rfl (fun h4 => ?_) (fun h4 => ?_)
    · exact absurd h4 hb
    · refine P_iload2 (pc' := 8) dX8_ask_7 rfl ?_
      refine P_callS1 (pc' := 11) dX8_ask_8 rfl lk_X8_73 (c_X8_isKind (d := 1) k (by omega)) (by omega) (Nat.le_of_ble_eq_true rfl) (fun r S' I' hq => ?_)
      obtain ⟨rfl, rfl, rfl⟩ := hq
      refine P_if_ne (tgt := 17) (pc' := 14) dX8_ask_11 rfl rfl (fun h11 => ?_) (fun h11 => ?_)
      · exact absurd hk h11
      · refine P_ldc (pc' := 16) dX8_ask_14 rfl co_X8_81 ?_
        refine P_iret dX8_ask_16 ?_
        exact CO.id hK
  obtain ⟨i, hi, rfl⟩ := wi_b (m := 4) (by decide) hb
  obtain ⟨k1, k2, k3⟩ := hK.1.2.2.2.2.2.1 i (by omega)
  obtain ⟨c1, c2, c3, c4⟩ := hK.2.2.2.2.2.2.2.1 i (by omega)
  rw [show vAsk T (nI i) k = if T 71 i = 0 then -1000000011 else if T 71 i = 1 then (if ofF 6 (T 72 i) k = 0 then -1000000012 else T 73 i) else -1000000012 by unfold vAsk; rw [if_neg hb, if_neg hk, nI_clamp (by omega)]]
  refine P_iload1 (pc' := 1) dX8_ask_0 rfl ?_
  refine P_callS1 (pc' := 4) dX8_ask_1 rfl lk_X8_271 (c_X8_isSlot (d := 1) _ (by omega)) (by omega) (Nat.le_of_ble_eq_true rfl) (fun r S' I' hq => ?_)
  obtain ⟨rfl, rfl, rfl⟩ := hq
  refine P_if_eq (tgt := 14) (pc' := 7) dX8_ask_4 rfl rfl (fun h4 => ?_) (fun h4 => ?_)
  · exact absurd h4 hb
  · refine P_iload2 (pc' := 8) dX8_ask_7 rfl ?_
    refine P_callS1 (pc' := 11) dX8_ask_8 rfl lk_X8_73 (c_X8_isKind (d := 1) k (by omega)) (by omega) (Nat.le_of_ble_eq_true rfl) (fun r S' I' hq => ?_)
    obtain ⟨rfl, rfl, rfl⟩ := hq
    refine P_if_ne (tgt := 17) (pc' := 14) dX8_ask_11 rfl rfl (fun h11 => ?_) (fun h11 => ?_)
    · refine P_aload0 (pc' := 18) dX8_ask_17 rfl ?_
      refine P_getr (pc' := 21) dX8_ask_18 rfl fl_X8_59 rfl (l_0 hsh) (t_0 hsh) (q_0_9 hsh) ?_
      refine P_iload1 (pc' := 22) dX8_ask_21 rfl ?_
      refine P_aald14 (pc' := 23) dX8_ask_22 rfl (l_30 hsh) (t_30 hsh) (j := i) rfl (by omega) (by decide) (sl_q hsh (by omega)) ?_
      refine P_astore3 (pc' := 24) dX8_ask_23 rfl (by decide) rfl ?_
      refine P_aload3 (pc' := 25) dX8_ask_24 rfl ?_
      refine P_geti (pc' := 28) dX8_ask_25 rfl fl_X8_274 rfl (sl_l hsh (show i < 5 by omega)) (sl_t hsh (show i < 5 by omega)) ?_
      refine P_as c1 ?_
      refine P_if_ne (tgt := 34) (pc' := 31) dX8_ask_28 rfl rfl (fun h28 => ?_) (fun h28 => ?_)
      · refine P_aload3 (pc' := 35) dX8_ask_34 rfl ?_
        refine P_geti (pc' := 38) dX8_ask_35 rfl fl_X8_274 rfl (sl_l hsh (show i < 5 by omega)) (sl_t hsh (show i < 5 by omega)) ?_
        refine P_as c1 ?_
        refine P_iconst (pc' := 39) dX8_ask_38 rfl (v := 1) rfl ?_
        refine P_icmp_ne (tgt := 53) (pc' := 42) dX8_ask_39 rfl rfl (fun h39 => ?_) (fun h39 => ?_)
        · refine P_ldc (pc' := 55) dX8_ask_53 rfl co_X8_135 ?_
          refine P_iret dX8_ask_55 ?_
          first
            | (rw [if_neg h28, if_neg h39]; exact CO.id hK)
            | (rw [if_neg h28, if_pos h39, if_pos h50]; exact CO.id hK)
        · refine P_aload3 (pc' := 43) dX8_ask_42 rfl ?_
          refine P_geti (pc' := 46) dX8_ask_43 rfl fl_X8_277 rfl (sl_l hsh (show i < 5 by omega)) (sl_t hsh (show i < 5 by omega)) ?_
          refine P_as (c2 h39).1 ?_
          refine P_iload2 (pc' := 47) dX8_ask_46 rfl ?_
          refine P_callS2 (pc' := 50) dX8_ask_47 rfl lk_X8_131 (c_X1_isOf (d := 2) (T 72 i) k (by omega)) (by omega) (Nat.le_of_ble_eq_true rfl) (fun r S' I' hq => ?_)
          obtain ⟨rfl, rfl, rfl⟩ := hq
          refine P_if_ne (tgt := 56) (pc' := 53) dX8_ask_50 rfl rfl (fun h50 => ?_) (fun h50 => ?_)
          · refine P_aload3 (pc' := 57) dX8_ask_56 rfl ?_
            refine P_geti (pc' := 60) dX8_ask_57 rfl fl_X8_277 rfl (sl_l hsh (show i < 5 by omega)) (sl_t hsh (show i < 5 by omega)) ?_
            refine P_as (c2 h39).1 ?_
            refine P_aload3 (pc' := 61) dX8_ask_60 rfl ?_
            refine P_geti (pc' := 64) dX8_ask_61 rfl fl_X8_280 rfl (sl_l hsh (show i < 5 by omega)) (sl_t hsh (show i < 5 by omega)) ?_
            refine P_callS2 (pc' := 67) dX8_ask_64 rfl lk_X8_111 (c_X1_worth (d := 1) _ _ (k3 h39)) (by omega) (Nat.le_of_ble_eq_true rfl) (fun r S' I' hq => ?_)
            obtain ⟨rfl, rfl, rfl⟩ := hq
            refine P_iret dX8_ask_67 ?_
            rw [if_neg h28, if_pos h39, if_neg h50, (c2 h39).2, (c2 h39).1]
            exact CO.id hK
          · refine P_ldc (pc' := 55) dX8_ask_53 rfl co_X8_135 ?_
            refine P_iret dX8_ask_55 ?_
            first
              | (rw [if_neg h28, if_neg h39]; exact CO.id hK)
              | (rw [if_neg h28, if_pos h39, if_pos h50]; exact CO.id hK)
      · refine P_ldc (pc' := 33) dX8_ask_31 rfl co_X8_209 ?_
        refine P_iret dX8_ask_33 ?_
        rw [if_pos h28]
        exact CO.id hK
    · exact absurd h11 hk
def vIte (T : Mem) (b j : Int32) : Int32 := if wi b 0 4 = 0 then -1000000001 else if T 71 b.toNatClampNeg = 0 then -1000000011 else if T 71 b.toNatClampNeg = 2 then (if wi j 0 (T 72 b.toNatClampNeg - 1) = 0 then -1000000013 else if T 74 (24 * b.toNatClampNeg + j.toNatClampNeg) = -1000000005 then -1000000012 else T 74 (24 * b.toNatClampNeg + j.toNatClampNeg)) else -1000000012
theorem x_item {G : GX} {S : Shp} {I T : Mem} {d tn bn : Nat} {tx : Nat → Tx} (hK : K S I T tn bn tx) (b j : Int32) (hd : 12 ≤ d) : PM G yX8_item cX8_item 4 (some .int) d 0 0 [.ref 0, .int b, .int j] S I (CO I T tn bn tx (vIte T b j)) := by
  have hsh := hK.2.1
  refine PM.of (ls := [some (.ref 0), some (.int b), some (.int j), none]) (by decide) rfl (Nat.le_of_ble_eq_true rfl) rfl ?_
  show PW G RX8 "item" _ _ _ _ _ _ _ _ _ _ _ _
  by_cases hb : wi b 0 4 = 0
  · rw [show vIte T b j = -1000000001 from if_pos hb]
    refine P_iload1 (pc' := 1) dX8_item_0 rfl ?_
    refine P_callS1 (pc' := 4) dX8_item_1 rfl lk_X8_271 (c_X8_isSlot (d := 1) b (by omega)) (by omega) (Nat.le_of_ble_eq_true rfl) (fun r S' I' hq => ?_)
    obtain ⟨rfl, rfl, rfl⟩ := hq
    refine P_if_ne (tgt := 10) (pc' := 7) dX8_item_4 rfl rfl (fun h4 => ?_) (fun h4 => ?_)
    · exact absurd hb h4
    · refine P_ldc (pc' := 9) dX8_item_7 rfl co_X8_81 ?_
      refine P_iret dX8_item_9 ?_
      exact CO.id hK
  obtain ⟨i, hi, rfl⟩ := wi_b (m := 4) (by decide) hb
  obtain ⟨k1, k2, k3⟩ := hK.1.2.2.2.2.2.1 i (by omega)
  obtain ⟨c1, c2, c3, c4⟩ := hK.2.2.2.2.2.2.2.1 i (by omega)
  rw [show vIte T (nI i) j = if T 71 i = 0 then -1000000011 else if T 71 i = 2 then (if wi j 0 (T 72 i - 1) = 0 then -1000000013 else if T 74 (24 * i + j.toNatClampNeg) = -1000000005 then -1000000012 else T 74 (24 * i + j.toNatClampNeg)) else -1000000012 by unfold vIte; rw [if_neg hb, nI_clamp (by omega)]]
  by_cases h2 : T 71 i = 2
  · obtain ⟨n, hn, e2⟩ := k2 h2
    obtain ⟨d1, d2⟩ := c3 h2
    have w1 := d1.trans e2
    rw [if_neg (show ¬ T 71 i = 0 by rw [h2]; decide), if_pos h2, e2]
    rw [h2] at c1
    by_cases hj : wi j 0 (nI n - 1) = 0
    · rw [if_pos hj]
      refine P_iload1 (pc' := 1) dX8_item_0 rfl ?_
      refine P_callS1 (pc' := 4) dX8_item_1 rfl lk_X8_271 (c_X8_isSlot (d := 1) _ (by omega)) (by omega) (Nat.le_of_ble_eq_true rfl) (fun r S' I' hq => ?_)
      obtain ⟨rfl, rfl, rfl⟩ := hq
      refine P_if_ne (tgt := 10) (pc' := 7) dX8_item_4 rfl rfl (fun h4 => ?_) (fun h4 => ?_)
      · refine P_aload0 (pc' := 11) dX8_item_10 rfl ?_
        refine P_getr (pc' := 14) dX8_item_11 rfl fl_X8_59 rfl (l_0 hsh) (t_0 hsh) (q_0_9 hsh) ?_
        refine P_iload1 (pc' := 15) dX8_item_14 rfl ?_
        refine P_aald14 (pc' := 16) dX8_item_15 rfl (l_30 hsh) (t_30 hsh) (j := i) rfl (by omega) (by decide) (sl_q hsh (by omega)) ?_
        refine P_astore3 (pc' := 17) dX8_item_16 rfl (by decide) rfl ?_
        refine P_aload3 (pc' := 18) dX8_item_17 rfl ?_
        refine P_geti (pc' := 21) dX8_item_18 rfl fl_X8_274 rfl (sl_l hsh (show i < 5 by omega)) (sl_t hsh (show i < 5 by omega)) ?_
        refine P_as c1 ?_
        refine P_if_ne (tgt := 27) (pc' := 24) dX8_item_21 rfl rfl (fun h21 => ?_) (fun h21 => ?_)
        · refine P_aload3 (pc' := 28) dX8_item_27 rfl ?_
          refine P_geti (pc' := 31) dX8_item_28 rfl fl_X8_274 rfl (sl_l hsh (show i < 5 by omega)) (sl_t hsh (show i < 5 by omega)) ?_
          refine P_as c1 ?_
          refine P_iconst (pc' := 32) dX8_item_31 rfl (v := 2) rfl ?_
          refine P_icmp_eq (tgt := 38) (pc' := 35) dX8_item_32 rfl rfl (fun h32 => ?_) (fun h32 => ?_)
          · refine P_aload3 (pc' := 39) dX8_item_38 rfl ?_
            refine P_getr (pc' := 42) dX8_item_39 rfl fl_X8_283 rfl (sl_l hsh (show i < 5 by omega)) (sl_t hsh (show i < 5 by omega)) (sl_p hsh (show i < 5 by omega)) ?_
            refine P_iload2 (pc' := 43) dX8_item_42 rfl ?_
            refine P_callV1 (pc' := 46) dX8_item_43 rfl lk_X8_243 (sl_o hsh (show i < 5 by omega)).1 (sl_o hsh (show i < 5 by omega)).2.2.1 (c_X3_has (d := 2) j (sl_o hsh (by omega)) (by omega)) (by omega) (Nat.le_of_ble_eq_true rfl) (fun r S' I' hq => ?_)
            obtain ⟨rfl, rfl, rfl⟩ := hq
            rw [w1]
            refine P_if_ne (tgt := 52) (pc' := 49) dX8_item_46 rfl rfl (fun h46 => ?_) (fun h46 => ?_)
            · exact absurd hj h46
            · refine P_ldc (pc' := 51) dX8_item_49 rfl co_X8_246 ?_
              refine P_iret dX8_item_51 ?_
              exact CO.id hK
          · exact absurd rfl h32
        · exact absurd h21 (by decide)
      · exact absurd h4 hb
    · rw [if_neg hj]
      obtain ⟨m, hm, rfl⟩ := wi_n (by omega) hj
      have e3 : I (41 + 3 * i + 1) m = T 74 (24 * i + m) := by rw [show 41 + 3 * i + 1 = 42 + 3 * i by omega]; exact d2 m (by omega)
      have en : (if wi (nI m) 0 (nI n - 1) = 0 then (0 : Int32) else if I (41 + 3 * i + 1) (nI m).toNatClampNeg = -1000000005 then 0 else 1) = if T 74 (24 * i + m) = -1000000005 then 0 else 1 := by
        rw [if_neg hj, nI_clamp (by omega), e3]
      rw [nI_clamp (by omega)]
      refine P_iload1 (pc' := 1) dX8_item_0 rfl ?_
      refine P_callS1 (pc' := 4) dX8_item_1 rfl lk_X8_271 (c_X8_isSlot (d := 1) _ (by omega)) (by omega) (Nat.le_of_ble_eq_true rfl) (fun r S' I' hq => ?_)
      obtain ⟨rfl, rfl, rfl⟩ := hq
      refine P_if_ne (tgt := 10) (pc' := 7) dX8_item_4 rfl rfl (fun h4 => ?_) (fun h4 => ?_)
      · refine P_aload0 (pc' := 11) dX8_item_10 rfl ?_
        refine P_getr (pc' := 14) dX8_item_11 rfl fl_X8_59 rfl (l_0 hsh) (t_0 hsh) (q_0_9 hsh) ?_
        refine P_iload1 (pc' := 15) dX8_item_14 rfl ?_
        refine P_aald14 (pc' := 16) dX8_item_15 rfl (l_30 hsh) (t_30 hsh) (j := i) rfl (by omega) (by decide) (sl_q hsh (by omega)) ?_
        refine P_astore3 (pc' := 17) dX8_item_16 rfl (by decide) rfl ?_
        refine P_aload3 (pc' := 18) dX8_item_17 rfl ?_
        refine P_geti (pc' := 21) dX8_item_18 rfl fl_X8_274 rfl (sl_l hsh (show i < 5 by omega)) (sl_t hsh (show i < 5 by omega)) ?_
        refine P_as c1 ?_
        refine P_if_ne (tgt := 27) (pc' := 24) dX8_item_21 rfl rfl (fun h21 => ?_) (fun h21 => ?_)
        · refine P_aload3 (pc' := 28) dX8_item_27 rfl ?_
          refine P_geti (pc' := 31) dX8_item_28 rfl fl_X8_274 rfl (sl_l hsh (show i < 5 by omega)) (sl_t hsh (show i < 5 by omega)) ?_
          refine P_as c1 ?_
          refine P_iconst (pc' := 32) dX8_item_31 rfl (v := 2) rfl ?_
          refine P_icmp_eq (tgt := 38) (pc' := 35) dX8_item_32 rfl rfl (fun h32 => ?_) (fun h32 => ?_)
          · refine P_aload3 (pc' := 39) dX8_item_38 rfl ?_
            refine P_getr (pc' := 42) dX8_item_39 rfl fl_X8_283 rfl (sl_l hsh (show i < 5 by omega)) (sl_t hsh (show i < 5 by omega)) (sl_p hsh (show i < 5 by omega)) ?_
            refine P_iload2 (pc' := 43) dX8_item_42 rfl ?_
            refine P_callV1 (pc' := 46) dX8_item_43 rfl lk_X8_243 (sl_o hsh (show i < 5 by omega)).1 (sl_o hsh (show i < 5 by omega)).2.2.1 (c_X3_has (d := 2) (nI m) (sl_o hsh (by omega)) (by omega)) (by omega) (Nat.le_of_ble_eq_true rfl) (fun r S' I' hq => ?_)
            obtain ⟨rfl, rfl, rfl⟩ := hq
            rw [w1]
            refine P_if_ne (tgt := 52) (pc' := 49) dX8_item_46 rfl rfl (fun h46 => ?_) (fun h46 => ?_)
            · refine P_aload3 (pc' := 53) dX8_item_52 rfl ?_
              refine P_getr (pc' := 56) dX8_item_53 rfl fl_X8_283 rfl (sl_l hsh (show i < 5 by omega)) (sl_t hsh (show i < 5 by omega)) (sl_p hsh (show i < 5 by omega)) ?_
              refine P_iload2 (pc' := 57) dX8_item_56 rfl ?_
              refine P_callV1 (pc' := 60) dX8_item_57 rfl lk_X8_256 (sl_o hsh (show i < 5 by omega)).1 (sl_o hsh (show i < 5 by omega)).2.2.1 (c_X3_isNumber (d := 2) (nI m) (sl_o hsh (by omega)) w1 hn (by omega)) (by omega) (Nat.le_of_ble_eq_true rfl) (fun r S' I' hq => ?_)
              obtain ⟨rfl, rfl, rfl⟩ := hq
              refine P_as en ?_
              refine P_if_eq (tgt := 75) (pc' := 63) dX8_item_60 rfl rfl (fun h60 => ?_) (fun h60 => ?_)
              · refine P_ldc (pc' := 77) dX8_item_75 rfl co_X8_135 ?_
                refine P_iret dX8_item_77 ?_
                first
                  | (rw [if_pos (Classical.byContradiction (fun z => absurd (h60.symm.trans (if_neg z)) (by decide)))]; exact CO.id hK)
                  | (rw [if_neg (fun z => h60 (if_pos z))]; exact CO.id hK)
              · refine P_aload3 (pc' := 64) dX8_item_63 rfl ?_
                refine P_getr (pc' := 67) dX8_item_64 rfl fl_X8_283 rfl (sl_l hsh (show i < 5 by omega)) (sl_t hsh (show i < 5 by omega)) (sl_p hsh (show i < 5 by omega)) ?_
                refine P_getr (pc' := 70) dX8_item_67 rfl fl_X8_252 rfl (sl_o hsh (show i < 5 by omega)).1 (sl_o hsh (show i < 5 by omega)).2.2.1 (sl_o hsh (show i < 5 by omega)).2.2.2.2 ?_
                refine P_iload2 (pc' := 71) dX8_item_70 rfl ?_
                refine P_iald (pc' := 72) dX8_item_71 rfl (sl_o hsh (show i < 5 by omega)).2.1 (sl_o hsh (show i < 5 by omega)).2.2.2.1 (j := m) rfl (by omega) (by decide) ?_
                refine P_as e3 ?_
                refine P_goto (tgt := 77) dX8_item_72 rfl ?_
                refine P_iret dX8_item_77 ?_
                first
                  | (rw [if_pos (Classical.byContradiction (fun z => absurd (h60.symm.trans (if_neg z)) (by decide)))]; exact CO.id hK)
                  | (rw [if_neg (fun z => h60 (if_pos z))]; exact CO.id hK)
            · exact absurd h46 hj
          · exact absurd rfl h32
        · exact absurd h21 (by decide)
      · exact absurd h4 hb
  · rw [if_neg h2]
    refine P_iload1 (pc' := 1) dX8_item_0 rfl ?_
    refine P_callS1 (pc' := 4) dX8_item_1 rfl lk_X8_271 (c_X8_isSlot (d := 1) _ (by omega)) (by omega) (Nat.le_of_ble_eq_true rfl) (fun r S' I' hq => ?_)
    obtain ⟨rfl, rfl, rfl⟩ := hq
    refine P_if_ne (tgt := 10) (pc' := 7) dX8_item_4 rfl rfl (fun h4 => ?_) (fun h4 => ?_)
    · refine P_aload0 (pc' := 11) dX8_item_10 rfl ?_
      refine P_getr (pc' := 14) dX8_item_11 rfl fl_X8_59 rfl (l_0 hsh) (t_0 hsh) (q_0_9 hsh) ?_
      refine P_iload1 (pc' := 15) dX8_item_14 rfl ?_
      refine P_aald14 (pc' := 16) dX8_item_15 rfl (l_30 hsh) (t_30 hsh) (j := i) rfl (by omega) (by decide) (sl_q hsh (by omega)) ?_
      refine P_astore3 (pc' := 17) dX8_item_16 rfl (by decide) rfl ?_
      refine P_aload3 (pc' := 18) dX8_item_17 rfl ?_
      refine P_geti (pc' := 21) dX8_item_18 rfl fl_X8_274 rfl (sl_l hsh (show i < 5 by omega)) (sl_t hsh (show i < 5 by omega)) ?_
      refine P_as c1 ?_
      refine P_if_ne (tgt := 27) (pc' := 24) dX8_item_21 rfl rfl (fun h21 => ?_) (fun h21 => ?_)
      · refine P_aload3 (pc' := 28) dX8_item_27 rfl ?_
        refine P_geti (pc' := 31) dX8_item_28 rfl fl_X8_274 rfl (sl_l hsh (show i < 5 by omega)) (sl_t hsh (show i < 5 by omega)) ?_
        refine P_as c1 ?_
        refine P_iconst (pc' := 32) dX8_item_31 rfl (v := 2) rfl ?_
        refine P_icmp_eq (tgt := 38) (pc' := 35) dX8_item_32 rfl rfl (fun h32 => ?_) (fun h32 => ?_)
        · exact absurd h32 h2
        · refine P_ldc (pc' := 37) dX8_item_35 rfl co_X8_135 ?_
          refine P_iret dX8_item_37 ?_
          rw [if_neg h21]
          exact CO.id hK
      · refine P_ldc (pc' := 26) dX8_item_24 rfl co_X8_209 ?_
        refine P_iret dX8_item_26 ?_
        rw [if_pos h21]
        exact CO.id hK
    · exact absurd h4 hb
def vRes (T : Mem) (b y : Int32) : Int32 := if wi b 0 4 = 0 then -1000000001 else if T 71 b.toNatClampNeg = 0 then -1000000011 else if T 71 b.toNatClampNeg = 3 then (if y = 0 then -1000000002 else T 72 b.toNatClampNeg - T 72 b.toNatClampNeg / y * y) else -1000000012
theorem x_rest {G : GX} {S : Shp} {I T : Mem} {d tn bn : Nat} {tx : Nat → Tx} (hK : K S I T tn bn tx) (b y : Int32) (hd : 12 ≤ d) : PM G yX8_rest cX8_rest 4 (some .int) d 0 0 [.ref 0, .int b, .int y] S I (CO I T tn bn tx (vRes T b y)) := by
  have hsh := hK.2.1
  refine PM.of (ls := [some (.ref 0), some (.int b), some (.int y), none]) (by decide) rfl (Nat.le_of_ble_eq_true rfl) rfl ?_
  show PW G RX8 "rest" _ _ _ _ _ _ _ _ _ _ _ _
  by_cases hb : wi b 0 4 = 0
  · rw [show vRes T b y = -1000000001 from if_pos hb]
    refine P_iload1 (pc' := 1) dX8_rest_0 rfl ?_
    refine P_callS1 (pc' := 4) dX8_rest_1 rfl lk_X8_271 (c_X8_isSlot (d := 1) b (by omega)) (by omega) (Nat.le_of_ble_eq_true rfl) (fun r S' I' hq => ?_)
    obtain ⟨rfl, rfl, rfl⟩ := hq
    refine P_if_ne (tgt := 10) (pc' := 7) dX8_rest_4 rfl rfl (fun h4 => ?_) (fun h4 => ?_)
    · exact absurd hb h4
    · refine P_ldc (pc' := 9) dX8_rest_7 rfl co_X8_81 ?_
      refine P_iret dX8_rest_9 ?_
      exact CO.id hK
  obtain ⟨i, hi, rfl⟩ := wi_b (m := 4) (by decide) hb
  obtain ⟨c1, c2, c3, c4⟩ := hK.2.2.2.2.2.2.2.1 i (by omega)
  rw [show vRes T (nI i) y = if T 71 i = 0 then -1000000011 else if T 71 i = 3 then (if y = 0 then -1000000002 else T 72 i - T 72 i / y * y) else -1000000012 by unfold vRes; rw [if_neg hb, nI_clamp (by omega)]]
  refine P_iload1 (pc' := 1) dX8_rest_0 rfl ?_
  refine P_callS1 (pc' := 4) dX8_rest_1 rfl lk_X8_271 (c_X8_isSlot (d := 1) _ (by omega)) (by omega) (Nat.le_of_ble_eq_true rfl) (fun r S' I' hq => ?_)
  obtain ⟨rfl, rfl, rfl⟩ := hq
  refine P_if_ne (tgt := 10) (pc' := 7) dX8_rest_4 rfl rfl (fun h4 => ?_) (fun h4 => ?_)
  · refine P_aload0 (pc' := 11) dX8_rest_10 rfl ?_
    refine P_getr (pc' := 14) dX8_rest_11 rfl fl_X8_59 rfl (l_0 hsh) (t_0 hsh) (q_0_9 hsh) ?_
    refine P_iload1 (pc' := 15) dX8_rest_14 rfl ?_
    refine P_aald14 (pc' := 16) dX8_rest_15 rfl (l_30 hsh) (t_30 hsh) (j := i) rfl (by omega) (by decide) (sl_q hsh (by omega)) ?_
    refine P_astore3 (pc' := 17) dX8_rest_16 rfl (by decide) rfl ?_
    refine P_aload3 (pc' := 18) dX8_rest_17 rfl ?_
    refine P_geti (pc' := 21) dX8_rest_18 rfl fl_X8_274 rfl (sl_l hsh (show i < 5 by omega)) (sl_t hsh (show i < 5 by omega)) ?_
    refine P_as c1 ?_
    refine P_if_ne (tgt := 27) (pc' := 24) dX8_rest_21 rfl rfl (fun h21 => ?_) (fun h21 => ?_)
    · refine P_aload3 (pc' := 28) dX8_rest_27 rfl ?_
      refine P_geti (pc' := 31) dX8_rest_28 rfl fl_X8_274 rfl (sl_l hsh (show i < 5 by omega)) (sl_t hsh (show i < 5 by omega)) ?_
      refine P_as c1 ?_
      refine P_iconst (pc' := 32) dX8_rest_31 rfl (v := 3) rfl ?_
      refine P_icmp_eq (tgt := 38) (pc' := 35) dX8_rest_32 rfl rfl (fun h32 => ?_) (fun h32 => ?_)
      · refine P_iload2 (pc' := 39) dX8_rest_38 rfl ?_
        refine P_if_ne (tgt := 48) (pc' := 42) dX8_rest_39 rfl rfl (fun h39 => ?_) (fun h39 => ?_)
        · refine P_aload3 (pc' := 49) dX8_rest_48 rfl ?_
          refine P_geti (pc' := 52) dX8_rest_49 rfl fl_X8_291 rfl (sl_l hsh (show i < 5 by omega)) (sl_t hsh (show i < 5 by omega)) ?_
          refine P_as (c4 h32) ?_
          refine P_iload2 (pc' := 53) dX8_rest_52 rfl ?_
          refine P_irem (pc' := 54) dX8_rest_53 rfl h39 ?_
          refine P_iret dX8_rest_54 ?_
          first
            | (rw [if_neg h21, if_pos h32, if_pos h39]; exact CO.id hK)
            | (rw [if_neg h21, if_pos h32, if_neg h39]; exact CO.id hK)
        · refine P_ldcw (pc' := 45) dX8_rest_42 rfl co_X8_294 ?_
          refine P_goto (tgt := 54) dX8_rest_45 rfl ?_
          refine P_iret dX8_rest_54 ?_
          first
            | (rw [if_neg h21, if_pos h32, if_pos h39]; exact CO.id hK)
            | (rw [if_neg h21, if_pos h32, if_neg h39]; exact CO.id hK)
      · refine P_ldc (pc' := 37) dX8_rest_35 rfl co_X8_135 ?_
        refine P_iret dX8_rest_37 ?_
        rw [if_neg h21, if_neg h32]
        exact CO.id hK
    · refine P_ldc (pc' := 26) dX8_rest_24 rfl co_X8_209 ?_
      refine P_iret dX8_rest_26 ?_
      rw [if_pos h21]
      exact CO.id hK
  · exact absurd h4 hb

