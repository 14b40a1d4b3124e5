def woS (fc : Nat → Int32) (k : Int32) (q : Nat × (Nat → Int32)) : Nat × (Nat → Int32) :=
  if k < 0 then (if k = -10 then (q.1, upd q.2 (q.1 - 1) (if q.2 (q.1 - 1) = 0 then 1 else 0)) else (q.1 - 1, upd q.2 (q.1 - 2) (jn (cz k) (q.2 (q.1 - 2)) (q.2 (q.1 - 1)))))
  else (q.1 + 1, upd q.2 q.1 (if 10000 ≤ k then fc (k - 10000).toNatClampNeg else k))
def woG (fc cd : Nat → Int32) : Nat → Nat → Nat × (Nat → Int32) → Nat × (Nat → Int32)
  | 0, _, q => q
  | n + 1, i, q => woG fc cd n (i + 1) (woS fc (cd i) q)
theorem woG_s (fc cd : Nat → Int32) (n i : Nat) (q : Nat × (Nat → Int32)) : woG fc cd (n + 1) i q = woG fc cd n (i + 1) (woS fc (cd i) q) := rfl
def okS (k : Int32) (tp : Nat) : Prop := if k < 0 then (if k = -10 then 1 ≤ tp else 2 ≤ tp ∧ isS k) else tp < 96 ∧ (10000 ≤ k → ∃ j, j < 3 ∧ k = nI (10000 + j))
def dpS (k : Int32) (tp : Nat) : Nat := if k < 0 then (if k = -10 then tp else tp - 1) else tp + 1
def OkC (cd : Nat → Int32) : Nat → Nat → Nat → Prop
  | 0, _, _ => True
  | n + 1, i, tp => okS (cd i) tp ∧ OkC cd n (i + 1) (dpS (cd i) tp)
theorem woS_1 (fc : Nat → Int32) (k : Int32) (q : Nat × (Nat → Int32)) : (woS fc k q).1 = dpS k q.1 := by
  unfold woS dpS
  split
  · split <;> rfl
  · rfl
theorem lp_X9_worksOut {G : GX} {S : Shp} {I : Mem} {d t len : Nat} {cd : Nat → Int32} {Q : Option Value → Shp → Mem → Prop} (hsh : SHP S) (ht : t < 14) (hlen : len ≤ 96) (hcd : ∀ k, k < len → I 56 (89 + 96 * t + k) = cd k) (hd : 1 ≤ d) : ∀ (n i tp : Nat) (st : Nat → Int32) (o5 : Option Value), i + n = len → OkC cd n i tp → tp ≤ 96 → Q (some (.int ((woG (I 67) cd n i (tp, st)).2 0))) S (sR I 66 (woG (I 67) cd n i (tp, st)).2) →
    PW G RX9 "worksOut" cX9_worksOut 6 (some .int) d 0 0 Q 21 [some (.ref 55), some (.int (nI t)), some (.int (nI tp)), some (.int (nI len)), some (.int (nI i)), o5] [] S (sR I 66 st) := by
  intro n
  induction n with
  | zero =>
    intro i tp st o5 hi hok h96 hQ
    refine P_iload4 (pc' := 23) dX9_worksOut_21 rfl ?_
    refine P_iload3 (pc' := 24) dX9_worksOut_23 rfl ?_
    refine P_icmp_ge (tgt := 155) (pc' := 27) dX9_worksOut_24 rfl rfl (fun h24 => ?_) (fun h24 => ?_)
    · refine P_aload0 (pc' := 156) dX9_worksOut_155 rfl ?_
      refine P_getr (pc' := 159) dX9_worksOut_156 rfl fl_X9_42 rfl (l_55 hsh) (t_55 hsh) (q_55_21 hsh) ?_
      refine P_iconst (pc' := 160) dX9_worksOut_159 rfl (v := 0) rfl ?_
      refine P_iald (pc' := 161) dX9_worksOut_160 rfl (l_66 hsh) (t_66 hsh) (j := 0) rfl (by decide) (by decide) ?_
      refine P_iret dX9_worksOut_161 ?_
      show Q (some (.int (sR I 66 st 66 0))) S (sR I 66 st)
      rw [sR_s]
      exact hQ
    · exact absurd (nI_le (by omega) (by omega)) h24
  | succ n ih =>
    intro i tp st o5 hi hok h96 hQ
    obtain ⟨hk, hok⟩ := hok
    rw [woG_s] at hQ
    have ei : nI i + 1 = nI (i + 1) := nI_1 i
    have e5 : sR I 66 st 56 (89 + 96 * t + i) = cd i := by rw [sR_n (by decide)]; exact hcd i (by omega)
    have eix : (89 : Int32) + 96 * nI t + nI i = nI (89 + 96 * t + i) := by rw [show (96 : Int32) = nI 96 from rfl, pk_mul, show (89 : Int32) = nI 89 from rfl, nI_add, nI_add]
    have go : ∀ (q' : Nat × (Nat → Int32)) (J : Mem) (o6 : Option Value), woS (I 67) (cd i) (tp, st) = q' → J = sR I 66 q'.2 → q'.1 ≤ 96 → PW G RX9 "worksOut" cX9_worksOut 6 (some .int) d 0 0 Q 21 [some (.ref 55), some (.int (nI t)), some (.int (nI q'.1)), some (.int (nI len)), some (.int (nI (i + 1))), o6] [] S J := by
      intro q' J o6 e1 e2 e3
      subst e2
      have e4 : q'.1 = dpS (cd i) tp := by rw [← e1]; exact woS_1 _ _ _
      refine ih (i + 1) q'.1 q'.2 o6 (by omega) (by rw [e4]; exact hok) e3 ?_
      rw [e1] at hQ
      exact hQ
    generalize cd i = k at hk hok hQ e5 go
    unfold okS at hk
    refine P_iload4 (pc' := 23) dX9_worksOut_21 rfl ?_
    refine P_iload3 (pc' := 24) dX9_worksOut_23 rfl ?_
    refine P_icmp_ge (tgt := 155) (pc' := 27) dX9_worksOut_24 rfl rfl (fun h24 => ?_) (fun h24 => ?_)
    · exact absurd h24 (nI_ge (by omega) (by omega))
    · refine P_aload0 (pc' := 28) dX9_worksOut_27 rfl ?_
      refine P_getr (pc' := 31) dX9_worksOut_28 rfl fl_X9_9 rfl (l_55 hsh) (t_55 hsh) (q_55_0 hsh) ?_
      refine P_bipush (pc' := 33) dX9_worksOut_31 rfl (v := 89) rfl ?_
      refine P_bipush (pc' := 35) dX9_worksOut_33 rfl (v := 96) rfl ?_
      refine P_iload1 (pc' := 36) dX9_worksOut_35 rfl ?_
      refine P_imul (pc' := 37) dX9_worksOut_36 rfl ?_
      refine P_iadd (pc' := 38) dX9_worksOut_37 rfl ?_
      refine P_iload4 (pc' := 40) dX9_worksOut_38 rfl ?_
      refine P_iadd (pc' := 41) dX9_worksOut_40 rfl ?_
      refine P_iald (pc' := 42) dX9_worksOut_41 rfl (l_56 hsh) (t_56 hsh) (j := 89 + 96 * t + i) eix (by omega) (by decide) ?_
      refine P_as (y := k) e5 ?_
      refine P_istore5 (pc' := 44) dX9_worksOut_42 rfl (by decide) rfl ?_
      refine P_iload5 (pc' := 46) dX9_worksOut_44 rfl ?_
      refine P_if_lt (tgt := 85) (pc' := 49) dX9_worksOut_46 rfl rfl (fun h46 => ?_) (fun h46 => ?_)
      · refine P_iload5 (pc' := 87) dX9_worksOut_85 rfl ?_
        refine P_bipush (pc' := 89) dX9_worksOut_87 rfl (v := (-10)) rfl ?_
        refine P_icmp_ne (tgt := 119) (pc' := 92) dX9_worksOut_89 rfl rfl (fun h89 => ?_) (fun h89 => ?_)
        · refine P_iinc2 (pc' := 122) dX9_worksOut_119 rfl (sb_m1 (p := tp) (by rw [if_pos h46, if_neg h89] at hk; omega)) (by decide) rfl ?_
          refine P_aload0 (pc' := 123) dX9_worksOut_122 rfl ?_
          refine P_getr (pc' := 126) dX9_worksOut_123 rfl fl_X9_42 rfl (l_55 hsh) (t_55 hsh) (q_55_21 hsh) ?_
          refine P_iload2 (pc' := 127) dX9_worksOut_126 rfl ?_
          refine P_iconst (pc' := 128) dX9_worksOut_127 rfl (v := 1) rfl ?_
          refine P_isub (pc' := 129) dX9_worksOut_128 rfl ?_
          refine P_iload5 (pc' := 131) dX9_worksOut_129 rfl ?_
          refine P_aload0 (pc' := 132) dX9_worksOut_131 rfl ?_
          refine P_getr (pc' := 135) dX9_worksOut_132 rfl fl_X9_42 rfl (l_55 hsh) (t_55 hsh) (q_55_21 hsh) ?_
          refine P_iload2 (pc' := 136) dX9_worksOut_135 rfl ?_
          refine P_iconst (pc' := 137) dX9_worksOut_136 rfl (v := 1) rfl ?_
          refine P_isub (pc' := 138) dX9_worksOut_137 rfl ?_
          refine P_iald (pc' := 139) dX9_worksOut_138 rfl (l_66 hsh) (t_66 hsh) (j := tp - 2) (by rw [if_pos h46, if_neg h89] at hk; rw [show tp - 2 = tp - 1 - 1 by omega]; exact pk_sub (a := tp - 1) (b := 1) (by omega)) (by omega) (by decide) ?_
          refine P_aload0 (pc' := 140) dX9_worksOut_139 rfl ?_
          refine P_getr (pc' := 143) dX9_worksOut_140 rfl fl_X9_42 rfl (l_55 hsh) (t_55 hsh) (q_55_21 hsh) ?_
          refine P_iload2 (pc' := 144) dX9_worksOut_143 rfl ?_
          refine P_iald (pc' := 145) dX9_worksOut_144 rfl (l_66 hsh) (t_66 hsh) (j := tp - 1) rfl (by omega) (by decide) ?_
          refine P_callS3 (pc' := 148) dX9_worksOut_145 rfl lk_X9_243 (c_X9_two (d := 0) k _ _ (by rw [if_pos h46, if_neg h89] at hk; exact hk.2)) (by omega) (Nat.le_of_ble_eq_true rfl) (fun r S' I' hq => ?_)
          obtain ⟨rfl, rfl, rfl⟩ := hq
          refine P_iast (pc' := 149) dX9_worksOut_148 rfl (l_66 hsh) (t_66 hsh) (j := tp - 2) (by rw [if_pos h46, if_neg h89] at hk; rw [show tp - 2 = tp - 1 - 1 by omega]; exact pk_sub (a := tp - 1) (b := 1) (by omega)) (by omega) (by decide) ?_
          refine P_iinc4 (pc' := 152) dX9_worksOut_149 rfl ei (by decide) rfl ?_
          refine P_goto (tgt := 21) dX9_worksOut_152 rfl ?_
          first
            | exact go (tp + 1, upd st tp k) _ _ (by unfold woS; dsimp only; rw [if_neg h46, if_neg h59]) (sR_u _ _ _ _ _) (by show tp + 1 ≤ 96; rw [if_neg h46] at hk; omega)
            | exact go (tp + 1, upd st tp (I 67 (k - 10000).toNatClampNeg)) _ _ (by unfold woS; dsimp only; rw [if_neg h46, if_pos h59]) (by rw [sR_n (by decide), sR_u]) (by show tp + 1 ≤ 96; rw [if_neg h46] at hk; omega)
            | exact go (tp, upd st (tp - 1) (if st (tp - 1) = 0 then 1 else 0)) _ _ (by unfold woS; dsimp only; rw [if_pos h46, if_pos h89]) (by rw [sR_u]; rw [sR_s] at h107; simp [h107]) h96
            | exact go (tp - 1, upd st (tp - 2) (jn (cz k) (st (tp - 2)) (st (tp - 1)))) _ _ (by unfold woS; dsimp only; rw [if_pos h46, if_neg h89]) (by rw [sR_u, sR_s]) (by show tp - 1 ≤ 96; omega)
        · refine P_aload0 (pc' := 93) dX9_worksOut_92 rfl ?_
          refine P_getr (pc' := 96) dX9_worksOut_93 rfl fl_X9_42 rfl (l_55 hsh) (t_55 hsh) (q_55_21 hsh) ?_
          refine P_iload2 (pc' := 97) dX9_worksOut_96 rfl ?_
          refine P_iconst (pc' := 98) dX9_worksOut_97 rfl (v := 1) rfl ?_
          refine P_isub (pc' := 99) dX9_worksOut_98 rfl ?_
          refine P_aload0 (pc' := 100) dX9_worksOut_99 rfl ?_
          refine P_getr (pc' := 103) dX9_worksOut_100 rfl fl_X9_42 rfl (l_55 hsh) (t_55 hsh) (q_55_21 hsh) ?_
          refine P_iload2 (pc' := 104) dX9_worksOut_103 rfl ?_
          refine P_iconst (pc' := 105) dX9_worksOut_104 rfl (v := 1) rfl ?_
          refine P_isub (pc' := 106) dX9_worksOut_105 rfl ?_
          refine P_iald (pc' := 107) dX9_worksOut_106 rfl (l_66 hsh) (t_66 hsh) (j := tp - 1) (pk_sub (a := tp) (b := 1) (by rw [if_pos h46, if_pos h89] at hk; exact hk)) (by rw [if_pos h46, if_pos h89] at hk; omega) (by decide) ?_
          refine P_if_ne (tgt := 114) (pc' := 110) dX9_worksOut_107 rfl rfl (fun h107 => ?_) (fun h107 => ?_)
          · refine P_iconst (pc' := 115) dX9_worksOut_114 rfl (v := 0) rfl ?_
            refine P_iast (pc' := 116) dX9_worksOut_115 rfl (l_66 hsh) (t_66 hsh) (j := tp - 1) (pk_sub (a := tp) (b := 1) (by rw [if_pos h46, if_pos h89] at hk; exact hk)) (by rw [if_pos h46, if_pos h89] at hk; omega) (by decide) ?_
            refine P_goto (tgt := 149) dX9_worksOut_116 rfl ?_
            refine P_iinc4 (pc' := 152) dX9_worksOut_149 rfl ei (by decide) rfl ?_
            refine P_goto (tgt := 21) dX9_worksOut_152 rfl ?_
            first
              | exact go (tp + 1, upd st tp k) _ _ (by unfold woS; dsimp only; rw [if_neg h46, if_neg h59]) (sR_u _ _ _ _ _) (by show tp + 1 ≤ 96; rw [if_neg h46] at hk; omega)
              | exact go (tp + 1, upd st tp (I 67 (k - 10000).toNatClampNeg)) _ _ (by unfold woS; dsimp only; rw [if_neg h46, if_pos h59]) (by rw [sR_n (by decide), sR_u]) (by show tp + 1 ≤ 96; rw [if_neg h46] at hk; omega)
              | exact go (tp, upd st (tp - 1) (if st (tp - 1) = 0 then 1 else 0)) _ _ (by unfold woS; dsimp only; rw [if_pos h46, if_pos h89]) (by rw [sR_u]; rw [sR_s] at h107; simp [h107]) h96
              | exact go (tp - 1, upd st (tp - 2) (jn (cz k) (st (tp - 2)) (st (tp - 1)))) _ _ (by unfold woS; dsimp only; rw [if_pos h46, if_neg h89]) (by rw [sR_u, sR_s]) (by show tp - 1 ≤ 96; omega)
          · refine P_iconst (pc' := 111) dX9_worksOut_110 rfl (v := 1) rfl ?_
            refine P_goto (tgt := 115) dX9_worksOut_111 rfl ?_
            refine P_iast (pc' := 116) dX9_worksOut_115 rfl (l_66 hsh) (t_66 hsh) (j := tp - 1) (pk_sub (a := tp) (b := 1) (by rw [if_pos h46, if_pos h89] at hk; exact hk)) (by rw [if_pos h46, if_pos h89] at hk; omega) (by decide) ?_
            refine P_goto (tgt := 149) dX9_worksOut_116 rfl ?_
            refine P_iinc4 (pc' := 152) dX9_worksOut_149 rfl ei (by decide) rfl ?_
            refine P_goto (tgt := 21) dX9_worksOut_152 rfl ?_
            first
              | exact go (tp + 1, upd st tp k) _ _ (by unfold woS; dsimp only; rw [if_neg h46, if_neg h59]) (sR_u _ _ _ _ _) (by show tp + 1 ≤ 96; rw [if_neg h46] at hk; omega)
              | exact go (tp + 1, upd st tp (I 67 (k - 10000).toNatClampNeg)) _ _ (by unfold woS; dsimp only; rw [if_neg h46, if_pos h59]) (by rw [sR_n (by decide), sR_u]) (by show tp + 1 ≤ 96; rw [if_neg h46] at hk; omega)
              | exact go (tp, upd st (tp - 1) (if st (tp - 1) = 0 then 1 else 0)) _ _ (by unfold woS; dsimp only; rw [if_pos h46, if_pos h89]) (by rw [sR_u]; rw [sR_s] at h107; simp [h107]) h96
              | exact go (tp - 1, upd st (tp - 2) (jn (cz k) (st (tp - 2)) (st (tp - 1)))) _ _ (by unfold woS; dsimp only; rw [if_pos h46, if_neg h89]) (by rw [sR_u, sR_s]) (by show tp - 1 ≤ 96; omega)
      · refine P_aload0 (pc' := 50) dX9_worksOut_49 rfl ?_
        refine P_getr (pc' := 53) dX9_worksOut_50 rfl fl_X9_42 rfl (l_55 hsh) (t_55 hsh) (q_55_21 hsh) ?_
        refine P_iload2 (pc' := 54) dX9_worksOut_53 rfl ?_
        refine P_iload5 (pc' := 56) dX9_worksOut_54 rfl ?_
        refine P_sipush (pc' := 59) dX9_worksOut_56 rfl (v := 10000) rfl ?_
        refine P_icmp_ge (tgt := 67) (pc' := 62) dX9_worksOut_59 rfl rfl (fun h59 => ?_) (fun h59 => ?_)
        · refine P_aload0 (pc' := 68) dX9_worksOut_67 rfl ?_
          refine P_getr (pc' := 71) dX9_worksOut_68 rfl fl_X9_45 rfl (l_55 hsh) (t_55 hsh) (q_55_22 hsh) ?_
          refine P_iload5 (pc' := 73) dX9_worksOut_71 rfl ?_
          refine P_sipush (pc' := 76) dX9_worksOut_73 rfl (v := 10000) rfl ?_
          refine P_isub (pc' := 77) dX9_worksOut_76 rfl ?_
          refine P_iald (pc' := 78) dX9_worksOut_77 rfl (l_67 hsh) (t_67 hsh) (j := (k - 10000).toNatClampNeg) (by rw [if_neg h46] at hk; obtain ⟨j, hj, e⟩ := hk.2 h59; rw [e, show (10000 : Int32) = nI 10000 from rfl, pk_sub (by omega), nI_clamp (by omega)]) (by rw [if_neg h46] at hk; obtain ⟨j, hj, e⟩ := hk.2 h59; rw [e, show (10000 : Int32) = nI 10000 from rfl, pk_sub (by omega), nI_clamp (by omega)]; omega) (by decide) ?_
          refine P_iast (pc' := 79) dX9_worksOut_78 rfl (l_66 hsh) (t_66 hsh) (j := tp) rfl (by rw [if_neg h46] at hk; exact hk.1) (by decide) ?_
          refine P_iinc2 (pc' := 82) dX9_worksOut_79 rfl (nI_1 tp) (by decide) rfl ?_
          refine P_goto (tgt := 149) dX9_worksOut_82 rfl ?_
          refine P_iinc4 (pc' := 152) dX9_worksOut_149 rfl ei (by decide) rfl ?_
          refine P_goto (tgt := 21) dX9_worksOut_152 rfl ?_
          first
            | exact go (tp + 1, upd st tp k) _ _ (by unfold woS; dsimp only; rw [if_neg h46, if_neg h59]) (sR_u _ _ _ _ _) (by show tp + 1 ≤ 96; rw [if_neg h46] at hk; omega)
            | exact go (tp + 1, upd st tp (I 67 (k - 10000).toNatClampNeg)) _ _ (by unfold woS; dsimp only; rw [if_neg h46, if_pos h59]) (by rw [sR_n (by decide), sR_u]) (by show tp + 1 ≤ 96; rw [if_neg h46] at hk; omega)
            | exact go (tp, upd st (tp - 1) (if st (tp - 1) = 0 then 1 else 0)) _ _ (by unfold woS; dsimp only; rw [if_pos h46, if_pos h89]) (by rw [sR_u]; rw [sR_s] at h107; simp [h107]) h96
            | exact go (tp - 1, upd st (tp - 2) (jn (cz k) (st (tp - 2)) (st (tp - 1)))) _ _ (by unfold woS; dsimp only; rw [if_pos h46, if_neg h89]) (by rw [sR_u, sR_s]) (by show tp - 1 ≤ 96; omega)
        · refine P_iload5 (pc' := 64) dX9_worksOut_62 rfl ?_
          refine P_goto (tgt := 78) dX9_worksOut_64 rfl ?_
          refine P_iast (pc' := 79) dX9_worksOut_78 rfl (l_66 hsh) (t_66 hsh) (j := tp) rfl (by rw [if_neg h46] at hk; exact hk.1) (by decide) ?_
          refine P_iinc2 (pc' := 82) dX9_worksOut_79 rfl (nI_1 tp) (by decide) rfl ?_
          refine P_goto (tgt := 149) dX9_worksOut_82 rfl ?_
          refine P_iinc4 (pc' := 152) dX9_worksOut_149 rfl ei (by decide) rfl ?_
          refine P_goto (tgt := 21) dX9_worksOut_152 rfl ?_
          first
            | exact go (tp + 1, upd st tp k) _ _ (by unfold woS; dsimp only; rw [if_neg h46, if_neg h59]) (sR_u _ _ _ _ _) (by show tp + 1 ≤ 96; rw [if_neg h46] at hk; omega)
            | exact go (tp + 1, upd st tp (I 67 (k - 10000).toNatClampNeg)) _ _ (by unfold woS; dsimp only; rw [if_neg h46, if_pos h59]) (by rw [sR_n (by decide), sR_u]) (by show tp + 1 ≤ 96; rw [if_neg h46] at hk; omega)
            | exact go (tp, upd st (tp - 1) (if st (tp - 1) = 0 then 1 else 0)) _ _ (by unfold woS; dsimp only; rw [if_pos h46, if_pos h89]) (by rw [sR_u]; rw [sR_s] at h107; simp [h107]) h96
            | exact go (tp - 1, upd st (tp - 2) (jn (cz k) (st (tp - 2)) (st (tp - 1)))) _ _ (by unfold woS; dsimp only; rw [if_pos h46, if_neg h89]) (by rw [sR_u, sR_s]) (by show tp - 1 ≤ 96; omega)
/-- a law: key, how many steps, how many atoms, the steps -/
abbrev Tx : Type := Nat × Nat × Nat × (Nat → Int32)
/-- what the reference's row holds of laws -/
def RT (I : Mem) (tn : Nat) (tx : Nat → Tx) : Prop := tn ≤ 14 ∧ I 56 7 = nI tn ∧ ∀ t, t < tn → I 56 (61 + 2 * t) = nI (1000 * (tx t).1 + (tx t).2.1) ∧ I 56 (62 + 2 * t) = nI (tx t).2.2.1 ∧ (tx t).1 ≤ 2 ∧ (tx t).2.1 ≤ 96 ∧ (∀ k, k < (tx t).2.1 → I 56 (89 + 96 * t + k) = (tx t).2.2.2 k) ∧ OkC (tx t).2.2.2 (tx t).2.1 0 0
theorem RT.mv {I J : Mem} {tn : Nat} {tx : Nat → Tx} (h : RT I tn tx) (h7 : J 56 7 = I 56 7) (h61 : ∀ i, 61 ≤ i → J 56 i = I 56 i) : RT J tn tx := by
  obtain ⟨a1, a2, a3⟩ := h
  refine ⟨a1, h7.trans a2, fun t ht => ?_⟩
  obtain ⟨b1, b2, b3, b4, b5, b6⟩ := a3 t ht
  exact ⟨by rw [h61 _ (by omega)]; exact b1, by rw [h61 _ (by omega)]; exact b2, b3, b4, fun k hk => by rw [h61 _ (by omega)]; exact b5 k hk, b6⟩
theorem c_X9_worksOut {G : GX} {S : Shp} {I : Mem} {d t tn : Nat} {tx : Nat → Tx} (hsh : SHP S) (hr : RT I tn tx) (ht : t < tn) (hd : 1 ≤ d) : PM G yX9_worksOut cX9_worksOut 6 (some .int) d 0 0 [.ref 55, .int (nI t)] S I (Rm S (sR I 66 (woG (I 67) (tx t).2.2.2 (tx t).2.1 0 (0, I 66)).2) ((woG (I 67) (tx t).2.2.2 (tx t).2.1 0 (0, I 66)).2 0)) := by
  refine PM.of (ls := [some (.ref 55), some (.int (nI t)), none, none, none, none]) (by decide) rfl (Nat.le_of_ble_eq_true rfl) rfl ?_
  show PW G RX9 "worksOut" _ _ _ _ _ _ _ _ _ _ _ _
  obtain ⟨a1, a2, a3⟩ := hr
  obtain ⟨b1, b2, b3, b4, b5, b6⟩ := a3 t ht
  have ex : (61 : Int32) + 2 * nI t = nI (61 + 2 * t) := by rw [show (2 : Int32) = nI 2 from rfl, pk_mul, show (61 : Int32) = nI 61 from rfl, nI_add]
  refine P_iconst (pc' := 1) dX9_worksOut_0 rfl (v := 0) rfl ?_
  refine P_istore2 (pc' := 2) dX9_worksOut_1 rfl (by decide) rfl ?_
  refine P_aload0 (pc' := 3) dX9_worksOut_2 rfl ?_
  refine P_getr (pc' := 6) dX9_worksOut_3 rfl fl_X9_9 rfl (l_55 hsh) (t_55 hsh) (q_55_0 hsh) ?_
  refine P_bipush (pc' := 8) dX9_worksOut_6 rfl (v := 61) rfl ?_
  refine P_iconst (pc' := 9) dX9_worksOut_8 rfl (v := 2) rfl ?_
  refine P_iload1 (pc' := 10) dX9_worksOut_9 rfl ?_
  refine P_imul (pc' := 11) dX9_worksOut_10 rfl ?_
  refine P_iadd (pc' := 12) dX9_worksOut_11 rfl ?_
  refine P_iald (pc' := 13) dX9_worksOut_12 rfl (l_56 hsh) (t_56 hsh) (j := 61 + 2 * t) ex (by omega) (by decide) ?_
  refine P_as b1 ?_
  refine P_sipush (pc' := 16) dX9_worksOut_13 rfl (v := 1000) rfl ?_
  refine P_irem (pc' := 17) dX9_worksOut_16 rfl (by decide) ?_
  refine P_as (y := nI (tx t).2.1) (by rw [show (1000 : Int32) = nI 1000 from rfl, pk_rem (by omega) (by decide) (by decide)]; congr 1; omega) ?_
  refine P_istore3 (pc' := 18) dX9_worksOut_17 rfl (by decide) rfl ?_
  refine P_iconst (pc' := 19) dX9_worksOut_18 rfl (v := 0) rfl ?_
  refine P_istore4 (pc' := 21) dX9_worksOut_19 rfl (by decide) rfl ?_
  have h := lp_X9_worksOut (G := G) (d := d) (Q := Rm S (sR I 66 (woG (I 67) (tx t).2.2.2 (tx t).2.1 0 (0, I 66)).2) ((woG (I 67) (tx t).2.2.2 (tx t).2.1 0 (0, I 66)).2 0)) hsh (by omega) b4 b5 hd (tx t).2.1 0 0 (I 66) none (by omega) b6 (by decide) ⟨rfl, rfl, rfl⟩
  rw [sR_self] at h
  exact h
def lastK (tx : Nat → Tx) (k : Nat) : Nat → Option Nat
  | 0 => none
  | n + 1 => if (tx n).1 = k then some n else lastK tx k n
theorem lastK_s (tx : Nat → Tx) (k n : Nat) : lastK tx k (n + 1) = if (tx n).1 = k then some n else lastK tx k n := rfl
theorem lastK_lt {tx : Nat → Tx} {k t : Nat} : ∀ {n : Nat}, lastK tx k n = some t → t < n ∧ (tx t).1 = k := by
  intro n
  induction n with
  | zero => intro h; cases h
  | succ n ih =>
    intro h
    rw [lastK_s] at h
    split at h
    · cases h; exact ⟨Nat.lt_succ_self _, by assumption⟩
    · have := ih h; exact ⟨by omega, this.2⟩
def lkV (o : Option Nat) : Int32 := match o with
  | none => -1
  | some t => nI t
theorem lp_X9_counts {G : GX} {S : Shp} {I : Mem} {d tn k : Nat} {tx : Nat → Tx} {v : Int32} (hsh : SHP S) (hr : RT I tn tx) (hk : k ≤ 2) : ∀ n, n ≤ tn → lkV (lastK tx k n) = v → PW G RX9 "counts" cX9_counts 3 (some .int) d 0 0 (Rm S I v) 10 [some (.ref 55), some (.int (nI k)), some (.int (nI n - 1))] [] S I := by
  intro n
  induction n with
  | zero =>
    intro hn hv
    refine P_iload2 (pc' := 11) dX9_counts_10 rfl ?_
    refine P_if_lt (tgt := 41) (pc' := 14) dX9_counts_11 rfl rfl (fun h11 => ?_) (fun h11 => ?_)
    · refine P_iconst (pc' := 42) dX9_counts_41 rfl (v := (-1)) rfl ?_
      refine P_iret dX9_counts_42 ?_
      exact ⟨by rw [← hv]; rfl, rfl, rfl⟩
    · exact absurd (by decide) h11
  | succ n ih =>
    intro hn hv
    obtain ⟨a1, a2, a3⟩ := id hr
    obtain ⟨b1, b2, b3, b4, b5, b6⟩ := a3 n (by omega)
    rw [lastK_s] at hv
    have en : nI (n + 1) - 1 = nI n := nI_pred n
    have ex : (61 : Int32) + 2 * nI n = nI (61 + 2 * n) := by rw [show (2 : Int32) = nI 2 from rfl, pk_mul, show (61 : Int32) = nI 61 from rfl, nI_add]
    have eq : nI (1000 * (tx n).1 + (tx n).2.1) / 1000 = nI (tx n).1 := by rw [show (1000 : Int32) = nI 1000 from rfl, pk_div (by omega) (by decide) (by decide)]; congr 1; omega
    rw [en]
    refine P_iload2 (pc' := 11) dX9_counts_10 rfl ?_
    refine P_if_lt (tgt := 41) (pc' := 14) dX9_counts_11 rfl rfl (fun h11 => ?_) (fun h11 => ?_)
    · exact absurd h11 (nI_pos (by omega))
    · refine P_aload0 (pc' := 15) dX9_counts_14 rfl ?_
      refine P_getr (pc' := 18) dX9_counts_15 rfl fl_X9_9 rfl (l_55 hsh) (t_55 hsh) (q_55_0 hsh) ?_
      refine P_bipush (pc' := 20) dX9_counts_18 rfl (v := 61) rfl ?_
      refine P_iconst (pc' := 21) dX9_counts_20 rfl (v := 2) rfl ?_
      refine P_iload2 (pc' := 22) dX9_counts_21 rfl ?_
      refine P_imul (pc' := 23) dX9_counts_22 rfl ?_
      refine P_iadd (pc' := 24) dX9_counts_23 rfl ?_
      refine P_iald (pc' := 25) dX9_counts_24 rfl (l_56 hsh) (t_56 hsh) (j := 61 + 2 * n) ex (by omega) (by decide) ?_
      refine P_as b1 ?_
      refine P_sipush (pc' := 28) dX9_counts_25 rfl (v := 1000) rfl ?_
      refine P_idiv (pc' := 29) dX9_counts_28 rfl (by decide) ?_
      refine P_as eq ?_
      refine P_iload1 (pc' := 30) dX9_counts_29 rfl ?_
      refine P_icmp_ne (tgt := 35) (pc' := 33) dX9_counts_30 rfl rfl (fun h30 => ?_) (fun h30 => ?_)
      · refine P_iinc2 (pc' := 38) dX9_counts_35 rfl (v := nI n - 1) (by rw [Int32.sub_eq_add_neg]; rfl) (by decide) rfl ?_
        refine P_goto (tgt := 10) dX9_counts_38 rfl ?_
        rw [if_neg (fun z => h30 (by rw [z]))] at hv
        exact ih (by omega) hv
      · refine P_iload2 (pc' := 34) dX9_counts_33 rfl ?_
        refine P_iret dX9_counts_34 ?_
        rw [if_pos ((nI_eq (by omega) (by omega)).mp h30)] at hv
        exact ⟨by rw [← hv]; rfl, rfl, rfl⟩
theorem c_X9_counts {G : GX} {S : Shp} {I : Mem} {d tn k : Nat} {tx : Nat → Tx} (hsh : SHP S) (hr : RT I tn tx) (hk : k ≤ 2) : PM G yX9_counts cX9_counts 3 (some .int) d 0 0 [.ref 55, .int (nI k)] S I (Rm S I (lkV (lastK tx k tn))) := by
  refine PM.of (ls := [some (.ref 55), some (.int (nI k)), none]) (by decide) rfl (Nat.le_of_ble_eq_true rfl) rfl ?_
  show PW G RX9 "counts" _ _ _ _ _ _ _ _ _ _ _ _
  refine P_aload0 (pc' := 1) dX9_counts_0 rfl ?_
  refine P_getr (pc' := 4) dX9_counts_1 rfl fl_X9_9 rfl (l_55 hsh) (t_55 hsh) (q_55_0 hsh) ?_
  refine P_bipush (pc' := 6) dX9_counts_4 rfl (v := 7) rfl ?_
  refine P_iald (pc' := 7) dX9_counts_6 rfl (l_56 hsh) (t_56 hsh) (j := 7) rfl (by decide) (by decide) ?_
  refine P_as hr.2.1 ?_
  refine P_iconst (pc' := 8) dX9_counts_7 rfl (v := 1) rfl ?_
  refine P_isub (pc' := 9) dX9_counts_8 rfl ?_
  refine P_istore2 (pc' := 10) dX9_counts_9 rfl (by decide) rfl ?_
  exact lp_X9_counts hsh hr hk tn (Nat.le_refl _) rfl

