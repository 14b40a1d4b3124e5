def FrX (I J : Mem) : Prop := (∀ y, y ≠ 55 → y ≠ 63 → y ≠ 64 → y ≠ 65 → J y = I y) ∧ ∀ k, (k < 7 ∨ (12 < k ∧ k ≠ 16 ∧ k ≠ 17 ∧ k ≠ 19)) → J 55 k = I 55 k
theorem RE.fx {T I J : Mem} (hI : RI T I) (f : FrX I J) : RE (u2 T 55 6 0) (u2 J 55 6 0) := by
  refine ⟨fun x h1 h2 _ _ _ h63 h64 h65 _ _ _ => ?_, fun i _ => ?_, ?_, ?_, ?_⟩
  · rw [u2_row (by omega), u2_row (by omega), f.1 x (by omega) h63 h64 h65, hI x (by omega) h2]
  · rw [u2_a (by decide), u2_a (by decide), f.1 56 (by decide) (by decide) (by decide) (by decide), hI 56 (by decide) (by decide)]
  · rw [u2_k (by decide), u2_k (by decide), f.2 3 (by omega), hI 55 (by decide) (by decide)]
  · rw [u2_s, u2_s]
  · rw [u2_k (by decide), u2_k (by decide), f.2 32 (by omega), hI 55 (by decide) (by decide)]
theorem k_text0 {G : GX} {S : Shp} {I T J : Mem} {d p : Nat} {x1 x2 x3 : Option Value} (hsh : SHP S) (hI : RI T I) (h8 : J 55 8 = nI p) (f : FrX I J) : PW G RX9 "text" cX9_text 4 (some .int) d 0 0 (RO S I (u2 T 55 6 0) (-100 - nI p)) 32 [some (.ref 55), x1, x2, x3] [] S J := by
  refine P_iconst (pc' := 33) dX9_text_32 rfl (v := 0) rfl ?_
  refine P_istore1 (pc' := 34) dX9_text_33 rfl (by decide) rfl ?_
  refine P_aload0 (pc' := 35) dX9_text_34 rfl ?_
  refine P_iconst (pc' := 36) dX9_text_35 rfl (v := 0) rfl ?_
  refine P_puti (pc' := 39) dX9_text_36 rfl fl_X9_179 rfl (l_55 hsh) (t_55 hsh) ?_
  refine P_iload1 (pc' := 40) dX9_text_39 rfl ?_
  refine P_if_ne (tgt := 51) (pc' := 43) dX9_text_40 rfl rfl (fun h40 => ?_) (fun h40 => ?_)
  · exact absurd rfl h40
  · refine P_bipush (pc' := 45) dX9_text_43 rfl (v := (-100)) rfl ?_
    refine P_aload0 (pc' := 46) dX9_text_45 rfl ?_
    refine P_geti (pc' := 49) dX9_text_46 rfl fl_X9_186 rfl (l_55 hsh) (t_55 hsh) ?_
    refine P_as (y := nI p) (by rw [u2_k (by decide)]; exact h8) ?_
    refine P_isub (pc' := 50) dX9_text_49 rfl ?_
    refine P_iret dX9_text_50 ?_
    exact ⟨rfl, rfl, RE.fx hI f, fun x hx => by rw [u2_row (by omega), f.1 x (by omega) (by omega) (by omega) (by omega)]⟩
/-- the code goes into its row -/
theorem lp_X9_text {G : GX} {S : Shp} {M : Mem} {d tn : Nat} {C : List Int32} {B : Nat → Int32} {Q : Option Value → Shp → Mem → Prop} (hsh : SHP S) (htn : tn < 14) (hl : C.length < 96) (h16 : M 55 16 = nI C.length) (h63 : ∀ k, k < C.length → M 63 k = C.getD k 0)
    (hQ : ∀ f : Nat → Int32, (∀ i, f i = if 89 + 96 * tn ≤ i ∧ i < 89 + 96 * tn + C.length then C.getD (i - (89 + 96 * tn)) 0 else B i) → PW G RX9 "text" cX9_text 4 (some .int) d 0 0 Q 151 [some (.ref 55), some (.int 1), some (.int (nI tn)), some (.int (nI C.length))] [] S (sR M 56 f)) : ∀ (m k : Nat) (f : Nat → Int32), k + m = C.length → (∀ i, f i = if 89 + 96 * tn ≤ i ∧ i < 89 + 96 * tn + k then C.getD (i - (89 + 96 * tn)) 0 else B i) → PW G RX9 "text" cX9_text 4 (some .int) d 0 0 Q 117 [some (.ref 55), some (.int 1), some (.int (nI tn)), some (.int (nI k))] [] S (sR M 56 f) := by
  intro m
  induction m with
  | zero =>
    intro k f hk hf
    have hk : k = C.length := by omega
    subst hk
    refine P_iload3 (pc' := 118) dX9_text_117 rfl ?_
    refine P_aload0 (pc' := 119) dX9_text_118 rfl ?_
    refine P_geti (pc' := 122) dX9_text_119 rfl fl_X9_216 rfl (l_55 hsh) (t_55 hsh) ?_
    refine P_as (y := nI C.length) (by rw [sR_n (by decide)]; exact h16) ?_
    refine P_icmp_ge (tgt := 151) (pc' := 125) dX9_text_122 rfl rfl (fun h122 => ?_) (fun h122 => ?_)
    · exact hQ f hf
    · exact absurd (nI_le (Nat.le_refl _) (by omega)) h122
  | succ m ih =>
    intro k f hk hf
    have ei : 89 + 96 * nI tn = nI (89 + 96 * tn) := by
      show nI 89 + nI 96 * nI tn = _
      rw [pk_mul, nI_add]
    refine P_iload3 (pc' := 118) dX9_text_117 rfl ?_
    refine P_aload0 (pc' := 119) dX9_text_118 rfl ?_
    refine P_geti (pc' := 122) dX9_text_119 rfl fl_X9_216 rfl (l_55 hsh) (t_55 hsh) ?_
    refine P_as (y := nI C.length) (by rw [sR_n (by decide)]; exact h16) ?_
    refine P_icmp_ge (tgt := 151) (pc' := 125) dX9_text_122 rfl rfl (fun h122 => ?_) (fun h122 => ?_)
    · exact absurd h122 (nI_ge (by omega) (by omega))
    · refine P_aload0 (pc' := 126) dX9_text_125 rfl ?_
      refine P_getr (pc' := 129) dX9_text_126 rfl fl_X9_9 rfl (l_55 hsh) (t_55 hsh) (q_55_0 hsh) ?_
      refine P_bipush (pc' := 131) dX9_text_129 rfl (v := 89) rfl ?_
      refine P_bipush (pc' := 133) dX9_text_131 rfl (v := 96) rfl ?_
      refine P_iload2 (pc' := 134) dX9_text_133 rfl ?_
      refine P_imul (pc' := 135) dX9_text_134 rfl ?_
      refine P_iadd (pc' := 136) dX9_text_135 rfl ?_
      refine P_as ei ?_
      refine P_iload3 (pc' := 137) dX9_text_136 rfl ?_
      refine P_iadd (pc' := 138) dX9_text_137 rfl ?_
      refine P_as (nI_add _ _) ?_
      refine P_aload0 (pc' := 139) dX9_text_138 rfl ?_
      refine P_getr (pc' := 142) dX9_text_139 rfl fl_X9_32 rfl (l_55 hsh) (t_55 hsh) (q_55_15 hsh) ?_
      refine P_iload3 (pc' := 143) dX9_text_142 rfl ?_
      refine P_iald (pc' := 144) dX9_text_143 rfl (l_63 hsh) (t_63 hsh) (j := k) rfl (by omega) (by decide) ?_
      refine P_as (y := C.getD k 0) (by rw [sR_n (by decide)]; exact h63 k (by omega)) ?_
      refine P_iast (pc' := 145) dX9_text_144 rfl (l_56 hsh) (t_56 hsh) (j := 89 + 96 * tn + k) rfl (by omega) (by decide) ?_
      refine P_iinc3 (pc' := 148) dX9_text_145 rfl (nI_1 k) (by decide) rfl ?_
      refine P_goto (tgt := 117) dX9_text_148 rfl ?_
      rw [sR_u]
      refine ih (k + 1) _ (by omega) (fun i => ?_)
      unfold upd
      by_cases q : i = 89 + 96 * tn + k
      · rw [if_pos q, if_pos (by omega), show i - (89 + 96 * tn) = k by omega]
      · rw [if_neg q, hf i]
        by_cases w : 89 + 96 * tn ≤ i ∧ i < 89 + 96 * tn + k
        · rw [if_pos w, if_pos (by omega)]
        · rw [if_neg w, if_neg (by omega)]
theorem k_text1 {G : GX} {S : Shp} {I T J : Mem} {d tn bn key : Nat} {tx : Nat → Tx} {C : List Int32} {x1 x2 x3 : Option Value} (hT : KT T tn bn tx) (hsh : SHP S) (hI : RI T I) (hk2 : key ≤ 2) (hl : C.length < 96) (hC : CR C J) (h17 : J 55 17 = nI (puL C)) (h12 : J 55 12 = nI key) (f : FrX I J) : PW G RX9 "text" cX9_text 4 (some .int) d 0 0 (RO S I (if tn = 14 then u2 T 55 6 0 else sR (u2 T 55 6 0) 56 (rowT (T 56) tn key C)) (if tn = 14 then -1000000003 else nI tn)) 28 [some (.ref 55), x1, x2, x3] [] S J := by
  have t14 : tn ≤ 14 := hT.2.1.1.1
  have hpu := puL_le C
  have e56 : ∀ i, u2 J 55 6 0 56 i = T 56 i := fun i => by rw [u2_a (by decide), f.1 56 (by decide) (by decide) (by decide) (by decide), hI 56 (by decide) (by decide)]
  have e7 : u2 J 55 6 0 56 7 = nI tn := by rw [e56]; exact hT.2.1.1.2.1
  by_cases q14 : tn = 14
  · rw [if_pos q14, if_pos q14]
    refine P_iconst (pc' := 29) dX9_text_28 rfl (v := 1) rfl ?_
    refine P_goto (tgt := 33) dX9_text_29 rfl ?_
    refine P_istore1 (pc' := 34) dX9_text_33 rfl (by decide) rfl ?_
    refine P_aload0 (pc' := 35) dX9_text_34 rfl ?_
    refine P_iconst (pc' := 36) dX9_text_35 rfl (v := 0) rfl ?_
    refine P_puti (pc' := 39) dX9_text_36 rfl fl_X9_179 rfl (l_55 hsh) (t_55 hsh) ?_
    refine P_iload1 (pc' := 40) dX9_text_39 rfl ?_
    refine P_if_ne (tgt := 51) (pc' := 43) dX9_text_40 rfl rfl (fun h40 => ?_) (fun h40 => ?_)
    · refine P_aload0 (pc' := 52) dX9_text_51 rfl ?_
      refine P_getr (pc' := 55) dX9_text_52 rfl fl_X9_9 rfl (l_55 hsh) (t_55 hsh) (q_55_0 hsh) ?_
      refine P_bipush (pc' := 57) dX9_text_55 rfl (v := 7) rfl ?_
      refine P_iald (pc' := 58) dX9_text_57 rfl (l_56 hsh) (t_56 hsh) (j := 7) rfl (by decide) (by decide) ?_
      refine P_as e7 ?_
      refine P_bipush (pc' := 60) dX9_text_58 rfl (v := 14) rfl ?_
      refine P_icmp_ne (tgt := 66) (pc' := 63) dX9_text_60 rfl rfl (fun h60 => ?_) (fun h60 => ?_)
      · exact absurd (by rw [q14]; rfl) h60
      · refine P_ldc (pc' := 65) dX9_text_63 rfl co_X9_84 ?_
        refine P_iret dX9_text_65 ?_
        exact ⟨rfl, rfl, RE.fx hI f, fun x hx => by rw [u2_row (by omega), f.1 x (by omega) (by omega) (by omega) (by omega)]⟩
    · exact absurd h40 (by decide)
  rw [if_neg q14, if_neg q14]
  have ei : 61 + 2 * nI tn = nI (61 + 2 * tn) := by
    show nI 61 + nI 2 * nI tn = _
    rw [pk_mul, nI_add]
  have ej : nI (61 + 2 * tn) + 1 = nI (62 + 2 * tn) := by rw [nI_1, show 61 + 2 * tn + 1 = 62 + 2 * tn by omega]
  have ek : 1000 * nI key + nI C.length = nI (1000 * key + C.length) := by
    show nI 1000 * nI key + nI C.length = _
    rw [pk_mul, nI_add]
  have k151 : ∀ g : Nat → Int32, (∀ i, g i = if 89 + 96 * tn ≤ i ∧ i < 89 + 96 * tn + C.length then C.getD (i - (89 + 96 * tn)) 0 else u2 (u2 (u2 J 55 6 0) 56 (61 + 2 * tn) (nI (1000 * key + C.length))) 56 (62 + 2 * tn) (nI (puL C)) 56 i) → PW G RX9 "text" cX9_text 4 (some .int) d 0 0 (RO S I (sR (u2 T 55 6 0) 56 (rowT (T 56) tn key C)) (nI tn)) 151 [some (.ref 55), some (.int 1), some (.int (nI tn)), some (.int (nI C.length))] [] S (sR (u2 (u2 (u2 J 55 6 0) 56 (61 + 2 * tn) (nI (1000 * key + C.length))) 56 (62 + 2 * tn) (nI (puL C))) 56 g) := by
    intro g hg
    have g7 : g 7 = nI tn := by rw [hg 7, if_neg (by omega), u2_k (by omega), u2_k (by omega)]; exact e7
    refine P_aload0 (pc' := 152) dX9_text_151 rfl ?_
    refine P_getr (pc' := 155) dX9_text_152 rfl fl_X9_9 rfl (l_55 hsh) (t_55 hsh) (q_55_0 hsh) ?_
    refine P_bipush (pc' := 157) dX9_text_155 rfl (v := 7) rfl ?_
    refine P_dup2 (pc' := 158) dX9_text_157 rfl rfl rfl ?_
    refine P_iald (pc' := 159) dX9_text_158 rfl (l_56 hsh) (t_56 hsh) (j := 7) rfl (by decide) (by decide) ?_
    refine P_as (y := nI tn) (by rw [sR_s]; exact g7) ?_
    refine P_iconst (pc' := 160) dX9_text_159 rfl (v := 1) rfl ?_
    refine P_iadd (pc' := 161) dX9_text_160 rfl ?_
    refine P_as (nI_1 _) ?_
    refine P_iast (pc' := 162) dX9_text_161 rfl (l_56 hsh) (t_56 hsh) (j := 7) rfl (by decide) (by decide) ?_
    refine P_iload2 (pc' := 163) dX9_text_162 rfl ?_
    refine P_iret dX9_text_163 ?_
    rw [sR_u]
    refine ⟨rfl, rfl, ⟨fun x h1 h2 h56 _ _ h63 h64 h65 _ _ _ => ?_, fun i hi => ?_, ?_, ?_, ?_⟩, fun x hx => ?_⟩
    · rw [sR_n h56, sR_n h56, u2_row h56, u2_row h56, u2_row (by omega), u2_row (by omega), f.1 x (by omega) h63 h64 h65, hI x (by omega) h2]
    · rw [sR_s, sR_s]
      unfold rowT upd
      by_cases q1 : i = 7
      · rw [if_pos q1, if_pos q1]
      · rw [if_neg q1, if_neg q1, hg i]
        by_cases q2 : i = 61 + 2 * tn
        · rw [if_pos q2, if_neg (by omega), u2_k (by omega), q2, u2_s]
        · rw [if_neg q2]
          by_cases q3 : i = 62 + 2 * tn
          · rw [if_pos q3, if_neg (by omega), q3, u2_s]
          · rw [if_neg q3, u2_k q3, u2_k q2, e56 i]
    · rw [sR_n (by decide), sR_n (by decide), u2_a (by decide), u2_a (by decide), u2_k (by decide), u2_k (by decide), f.2 3 (by omega), hI 55 (by decide) (by decide)]
    · rw [sR_n (by decide), sR_n (by decide), u2_a (by decide), u2_a (by decide), u2_s, u2_s]
    · rw [sR_n (by decide), sR_n (by decide), u2_a (by decide), u2_a (by decide), u2_k (by decide), u2_k (by decide), f.2 32 (by omega), hI 55 (by decide) (by decide)]
    · rw [sR_n (by omega), u2_row (by omega), u2_row (by omega), u2_row (by omega), f.1 x (by omega) (by omega) (by omega) (by omega)]
  refine P_iconst (pc' := 29) dX9_text_28 rfl (v := 1) rfl ?_
  refine P_goto (tgt := 33) dX9_text_29 rfl ?_
  refine P_istore1 (pc' := 34) dX9_text_33 rfl (by decide) rfl ?_
  refine P_aload0 (pc' := 35) dX9_text_34 rfl ?_
  refine P_iconst (pc' := 36) dX9_text_35 rfl (v := 0) rfl ?_
  refine P_puti (pc' := 39) dX9_text_36 rfl fl_X9_179 rfl (l_55 hsh) (t_55 hsh) ?_
  refine P_iload1 (pc' := 40) dX9_text_39 rfl ?_
  refine P_if_ne (tgt := 51) (pc' := 43) dX9_text_40 rfl rfl (fun h40 => ?_) (fun h40 => ?_)
  · refine P_aload0 (pc' := 52) dX9_text_51 rfl ?_
    refine P_getr (pc' := 55) dX9_text_52 rfl fl_X9_9 rfl (l_55 hsh) (t_55 hsh) (q_55_0 hsh) ?_
    refine P_bipush (pc' := 57) dX9_text_55 rfl (v := 7) rfl ?_
    refine P_iald (pc' := 58) dX9_text_57 rfl (l_56 hsh) (t_56 hsh) (j := 7) rfl (by decide) (by decide) ?_
    refine P_as e7 ?_
    refine P_bipush (pc' := 60) dX9_text_58 rfl (v := 14) rfl ?_
    refine P_icmp_ne (tgt := 66) (pc' := 63) dX9_text_60 rfl rfl (fun h60 => ?_) (fun h60 => ?_)
    · refine P_aload0 (pc' := 67) dX9_text_66 rfl ?_
      refine P_getr (pc' := 70) dX9_text_67 rfl fl_X9_9 rfl (l_55 hsh) (t_55 hsh) (q_55_0 hsh) ?_
      refine P_bipush (pc' := 72) dX9_text_70 rfl (v := 7) rfl ?_
      refine P_iald (pc' := 73) dX9_text_72 rfl (l_56 hsh) (t_56 hsh) (j := 7) rfl (by decide) (by decide) ?_
      refine P_as e7 ?_
      refine P_istore2 (pc' := 74) dX9_text_73 rfl (by decide) rfl ?_
      refine P_aload0 (pc' := 75) dX9_text_74 rfl ?_
      refine P_getr (pc' := 78) dX9_text_75 rfl fl_X9_9 rfl (l_55 hsh) (t_55 hsh) (q_55_0 hsh) ?_
      refine P_bipush (pc' := 80) dX9_text_78 rfl (v := 61) rfl ?_
      refine P_iconst (pc' := 81) dX9_text_80 rfl (v := 2) rfl ?_
      refine P_iload2 (pc' := 82) dX9_text_81 rfl ?_
      refine P_imul (pc' := 83) dX9_text_82 rfl ?_
      refine P_iadd (pc' := 84) dX9_text_83 rfl ?_
      refine P_as ei ?_
      refine P_sipush (pc' := 87) dX9_text_84 rfl (v := 1000) rfl ?_
      refine P_aload0 (pc' := 88) dX9_text_87 rfl ?_
      refine P_geti (pc' := 91) dX9_text_88 rfl fl_X9_204 rfl (l_55 hsh) (t_55 hsh) ?_
      refine P_as (y := nI key) (by rw [u2_k (by decide)]; exact h12) ?_
      refine P_imul (pc' := 92) dX9_text_91 rfl ?_
      refine P_aload0 (pc' := 93) dX9_text_92 rfl ?_
      refine P_geti (pc' := 96) dX9_text_93 rfl fl_X9_216 rfl (l_55 hsh) (t_55 hsh) ?_
      refine P_as (y := nI C.length) (by rw [u2_k (by decide)]; exact hC.1) ?_
      refine P_iadd (pc' := 97) dX9_text_96 rfl ?_
      refine P_as ek ?_
      refine P_iast (pc' := 98) dX9_text_97 rfl (l_56 hsh) (t_56 hsh) (j := 61 + 2 * tn) rfl (by omega) (by decide) ?_
      refine P_aload0 (pc' := 99) dX9_text_98 rfl ?_
      refine P_getr (pc' := 102) dX9_text_99 rfl fl_X9_9 rfl (l_55 hsh) (t_55 hsh) (q_55_0 hsh) ?_
      refine P_bipush (pc' := 104) dX9_text_102 rfl (v := 61) rfl ?_
      refine P_iconst (pc' := 105) dX9_text_104 rfl (v := 2) rfl ?_
      refine P_iload2 (pc' := 106) dX9_text_105 rfl ?_
      refine P_imul (pc' := 107) dX9_text_106 rfl ?_
      refine P_iadd (pc' := 108) dX9_text_107 rfl ?_
      refine P_as ei ?_
      refine P_iconst (pc' := 109) dX9_text_108 rfl (v := 1) rfl ?_
      refine P_iadd (pc' := 110) dX9_text_109 rfl ?_
      refine P_as ej ?_
      refine P_aload0 (pc' := 111) dX9_text_110 rfl ?_
      refine P_geti (pc' := 114) dX9_text_111 rfl fl_X9_222 rfl (l_55 hsh) (t_55 hsh) ?_
      refine P_as (y := nI (puL C)) (by rw [u2_a (by decide), u2_k (by decide)]; exact h17) ?_
      refine P_iast (pc' := 115) dX9_text_114 rfl (l_56 hsh) (t_56 hsh) (j := 62 + 2 * tn) rfl (by omega) (by decide) ?_
      refine P_iconst (pc' := 116) dX9_text_115 rfl (v := 0) rfl ?_
      refine P_istore3 (pc' := 117) dX9_text_116 rfl (by decide) rfl ?_
      have z := lp_X9_text (G := G) (S := S) (d := d) (tn := tn) (C := C) (M := u2 (u2 (u2 J 55 6 0) 56 (61 + 2 * tn) (nI (1000 * key + C.length))) 56 (62 + 2 * tn) (nI (puL C))) (B := u2 (u2 (u2 J 55 6 0) 56 (61 + 2 * tn) (nI (1000 * key + C.length))) 56 (62 + 2 * tn) (nI (puL C)) 56) hsh (by omega) hl (by rw [u2_a (by decide), u2_a (by decide), u2_k (by decide)]; exact hC.1) (fun k hk => by rw [u2_a (by decide), u2_a (by decide), u2_a (by decide)]; exact hC.2 k hk) k151 C.length 0 (u2 (u2 (u2 J 55 6 0) 56 (61 + 2 * tn) (nI (1000 * key + C.length))) 56 (62 + 2 * tn) (nI (puL C)) 56) (by omega) (fun i => by rw [if_neg (by omega)])
      rw [sR_self] at z
      exact z
    · exact absurd ((nI_eq (b := 14) (by omega) (by decide)).mp h60) q14
  · exact absurd h40 (by decide)
theorem r_text {G : GX} {S : Shp} {I T : Mem} {b : Nat → Int32} {d tn bn n : Nat} {tx : Nat → Tx} {o : TOut} (hT : KT T tn bn tx) (hsh : SHP S) (hI : RI T I) (hn : n ≤ 96) (h6 : T 55 6 = nI n) (hB : BT b T) (hO : TO b n o) (hX : XO b n o) (hd : 12 ≤ d) : PM G yX9_text cX9_text 4 (some .int) d 0 0 [.ref 55] S I (RO S I (uTx T tn o) (vTx tn o)) := by
  have hB : BT b I := hB.mv (hI 60 (by decide) (by decide))
  have h6 : I 55 6 = nI n := by rw [hI 55 (by decide) (by decide)]; exact h6
  have g0 : GoI b n (3, 0, 0) (u2 (u2 I 55 7 0) 55 11 (-1)) := ⟨⟨by rw [u2_k (by decide), u2_k (by decide)]; exact h6, hB.u.u⟩, by rw [u2_k (by decide), u2_s]; rfl, fun z => absurd z (by show ¬ ((3 : Nat) = 1 ∨ (3 : Nat) = 2); omega), fun _ p _ hp z => by
    rw [u2_s] at z
    exact nI_pos (n := p) (by omega) (by rw [← z]; decide)⟩
  obtain ⟨l0, a0⟩ := advL_ok (b := b) (n := n) (x := (3, 0, 0)) (Nat.zero_le n)
  have w0 : WOk b n (advL b n (3, 0, 0)) := WOk.adv (Nat.zero_le n)
  have w1 : WOk b n (advL b n (advL b n (3, 0, 0))) := WOk.adv l0.2.2.2.1
  have hky : ∀ {J : Mem}, FrG (u2 (u2 I 55 7 0) 55 11 (-1)) J → KY J := fun {J} f => by
    have z := hT.2.2.2.2.2.2.2.2
    unfold KY at z ⊢
    rw [f.1 61 (by decide), f.1 62 (by decide), u2_row (by decide), u2_row (by decide), u2_row (by decide), u2_row (by decide), hI 61 (by decide) (by decide), hI 62 (by decide) (by decide)]
    exact z
  have fG : ∀ {J : Mem}, FrG (u2 (u2 I 55 7 0) 55 11 (-1)) J → FrX I J := fun {J} f => ⟨fun y y1 _ _ _ => by rw [f.1 y y1, u2_row y1, u2_row y1], fun k hk => by rw [f.2 k (by omega), u2_k (by omega), u2_k (by omega)]⟩
  have fK : ∀ {J M : Mem}, FrX I J → FrK J M → FrX I M := fun {J M} f g => ⟨fun y y1 y2 y3 y4 => by rw [g.1 y y1]; exact f.1 y y1 y2 y3 y4, fun k hk => by rw [g.2 k (by omega)]; exact f.2 k hk⟩
  have fE : ∀ {J M : Mem}, FrX I J → FrE J M → FrX I M := fun {J M} f g => ⟨fun y y1 y2 y3 y4 => by rw [g.1 y y1 y2 y3 y4]; exact f.1 y y1 y2 y3 y4, fun k hk => by rw [g.2 k (by omega)]; exact f.2 k hk⟩
  refine PM.of (ls := [some (.ref 55), none, none, none]) (by decide) rfl (Nat.le_of_ble_eq_true rfl) rfl ?_
  show PW G RX9 "text" _ _ _ _ _ _ _ _ _ _ _ _
  cases o with
  | inl p =>
    cases hk : kyO b (advL b n (3, 0, 0)) with
    | none =>
      have hO : (match kyO b (advL b n (3, 0, 0)) with | none => p = (advL b n (3, 0, 0)).2.1 | some key => Fa key b n (advL b n (advL b n (3, 0, 0)), [], [], true, [false], 0) p) := hO
      rw [hk] at hO
      have hO : p = (advL b n (3, 0, 0)).2.1 := hO
      refine P_aload0 (pc' := 1) dX9_text_0 rfl ?_
      refine P_iconst (pc' := 2) dX9_text_1 rfl (v := 0) rfl ?_
      refine P_puti (pc' := 5) dX9_text_2 rfl fl_X9_183 rfl (l_55 hsh) (t_55 hsh) ?_
      refine P_aload0 (pc' := 6) dX9_text_5 rfl ?_
      refine P_iconst (pc' := 7) dX9_text_6 rfl (v := (-1)) rfl ?_
      refine P_puti (pc' := 10) dX9_text_7 rfl fl_X9_189 rfl (l_55 hsh) (t_55 hsh) ?_
      refine P_aload0 (pc' := 11) dX9_text_10 rfl ?_
      refine P_callV0 (pc' := 14) dX9_text_11 rfl lk_X9_207 (l_55 hsh) (t_55 hsh) (c_X9_go (d := 1) (b := b) (n := n) (x := (3, 0, 0)) hsh hn (Nat.zero_le n) (Or.inr (Or.inr rfl)) g0 (by omega)) (by omega) (Nat.le_of_ble_eq_true rfl) (fun r S2 I2 hq => ?_)
      obtain ⟨rfl, rfl, g2, f2⟩ := hq
      refine P_aload0 (pc' := 15) dX9_text_14 rfl ?_
      refine P_callV0 (pc' := 18) dX9_text_15 rfl lk_X9_237 (l_55 hsh) (t_55 hsh) (c_X9_takesKey (d := 2) (b := b) (n := n) hsh (hky f2) hn w0 g2 (by omega)) (by omega) (Nat.le_of_ble_eq_true rfl) (fun r S3 I3 hq => ?_)
      obtain ⟨rfl, hq⟩ := hq
      rw [hk] at hq
      obtain ⟨rfl, rfl⟩ := hq
      refine P_if_eq (tgt := 32) (pc' := 21) dX9_text_18 rfl rfl (fun h18 => ?_) (fun h18 => ?_)
      · exact k_text0 hsh hI (by rw [hO]; exact g2.2.1) (fG f2)
      · exact absurd rfl h18
    | some key =>
      have hO : (match kyO b (advL b n (3, 0, 0)) with | none => p = (advL b n (3, 0, 0)).2.1 | some key => Fa key b n (advL b n (advL b n (3, 0, 0)), [], [], true, [false], 0) p) := hO
      rw [hk] at hO
      have hO : Fa key b n (advL b n (advL b n (3, 0, 0)), [], [], true, [false], 0) p := hO
      obtain ⟨j, hj⟩ := hO
      obtain ⟨k2, -, -⟩ := ky_le hk
      refine P_aload0 (pc' := 1) dX9_text_0 rfl ?_
      refine P_iconst (pc' := 2) dX9_text_1 rfl (v := 0) rfl ?_
      refine P_puti (pc' := 5) dX9_text_2 rfl fl_X9_183 rfl (l_55 hsh) (t_55 hsh) ?_
      refine P_aload0 (pc' := 6) dX9_text_5 rfl ?_
      refine P_iconst (pc' := 7) dX9_text_6 rfl (v := (-1)) rfl ?_
      refine P_puti (pc' := 10) dX9_text_7 rfl fl_X9_189 rfl (l_55 hsh) (t_55 hsh) ?_
      refine P_aload0 (pc' := 11) dX9_text_10 rfl ?_
      refine P_callV0 (pc' := 14) dX9_text_11 rfl lk_X9_207 (l_55 hsh) (t_55 hsh) (c_X9_go (d := 1) (b := b) (n := n) (x := (3, 0, 0)) hsh hn (Nat.zero_le n) (Or.inr (Or.inr rfl)) g0 (by omega)) (by omega) (Nat.le_of_ble_eq_true rfl) (fun r S2 I2 hq => ?_)
      obtain ⟨rfl, rfl, g2, f2⟩ := hq
      refine P_aload0 (pc' := 15) dX9_text_14 rfl ?_
      refine P_callV0 (pc' := 18) dX9_text_15 rfl lk_X9_237 (l_55 hsh) (t_55 hsh) (c_X9_takesKey (d := 2) (b := b) (n := n) hsh (hky f2) hn w0 g2 (by omega)) (by omega) (Nat.le_of_ble_eq_true rfl) (fun r S3 I3 hq => ?_)
      obtain ⟨rfl, hq⟩ := hq
      rw [hk] at hq
      obtain ⟨rfl, g3, h12, f3⟩ := hq
      refine P_if_eq (tgt := 32) (pc' := 21) dX9_text_18 rfl rfl (fun h18 => ?_) (fun h18 => ?_)
      · exact absurd h18 (by decide)
      · refine P_aload0 (pc' := 22) dX9_text_21 rfl ?_
        refine P_callV0 (pc' := 25) dX9_text_22 rfl lk_X9_240 (l_55 hsh) (t_55 hsh) (c_X9_takesE (d := 4) (b := b) (n := n) hsh hn k2 w1 g3 h12 hj (by omega)) (by omega) (Nat.le_of_ble_eq_true rfl) (fun r S4 I4 hq => ?_)
        obtain ⟨rfl, h8, f4, hq⟩ := hq
        have hq : r = some (.int 0) := hq
        subst hq
        refine P_if_eq (tgt := 32) (pc' := 28) dX9_text_25 rfl rfl (fun h25 => ?_) (fun h25 => ?_)
        · exact k_text0 hsh hI h8 (fE (fK (fG f2) f3) f4)
        · exact absurd rfl h25
  | inr z =>
    obtain ⟨key, C⟩ := z
    obtain ⟨hk, j, p, hj⟩ := hO
    obtain ⟨-, -, -, -, y4, y5⟩ := hX
    refine P_aload0 (pc' := 1) dX9_text_0 rfl ?_
    refine P_iconst (pc' := 2) dX9_text_1 rfl (v := 0) rfl ?_
    refine P_puti (pc' := 5) dX9_text_2 rfl fl_X9_183 rfl (l_55 hsh) (t_55 hsh) ?_
    refine P_aload0 (pc' := 6) dX9_text_5 rfl ?_
    refine P_iconst (pc' := 7) dX9_text_6 rfl (v := (-1)) rfl ?_
    refine P_puti (pc' := 10) dX9_text_7 rfl fl_X9_189 rfl (l_55 hsh) (t_55 hsh) ?_
    refine P_aload0 (pc' := 11) dX9_text_10 rfl ?_
    refine P_callV0 (pc' := 14) dX9_text_11 rfl lk_X9_207 (l_55 hsh) (t_55 hsh) (c_X9_go (d := 1) (b := b) (n := n) (x := (3, 0, 0)) hsh hn (Nat.zero_le n) (Or.inr (Or.inr rfl)) g0 (by omega)) (by omega) (Nat.le_of_ble_eq_true rfl) (fun r S2 I2 hq => ?_)
    obtain ⟨rfl, rfl, g2, f2⟩ := hq
    refine P_aload0 (pc' := 15) dX9_text_14 rfl ?_
    refine P_callV0 (pc' := 18) dX9_text_15 rfl lk_X9_237 (l_55 hsh) (t_55 hsh) (c_X9_takesKey (d := 2) (b := b) (n := n) hsh (hky f2) hn w0 g2 (by omega)) (by omega) (Nat.le_of_ble_eq_true rfl) (fun r S3 I3 hq => ?_)
    obtain ⟨rfl, hq⟩ := hq
    rw [hk] at hq
    obtain ⟨rfl, g3, h12, f3⟩ := hq
    refine P_if_eq (tgt := 32) (pc' := 21) dX9_text_18 rfl rfl (fun h18 => ?_) (fun h18 => ?_)
    · exact absurd h18 (by decide)
    · refine P_aload0 (pc' := 22) dX9_text_21 rfl ?_
      refine P_callV0 (pc' := 25) dX9_text_22 rfl lk_X9_240 (l_55 hsh) (t_55 hsh) (c_X9_takesE (d := 4) (b := b) (n := n) hsh hn y5 w1 g3 h12 hj (by omega)) (by omega) (Nat.le_of_ble_eq_true rfl) (fun r S4 I4 hq => ?_)
      obtain ⟨rfl, h8, f4, hq⟩ := hq
      have hq : r = some (.int 1) ∧ CR C I4 ∧ I4 55 17 = nI (puL C) := hq
      obtain ⟨rfl, c4, h17⟩ := hq
      refine P_if_eq (tgt := 32) (pc' := 28) dX9_text_25 rfl rfl (fun h25 => ?_) (fun h25 => ?_)
      · exact absurd h25 (by decide)
      · exact k_text1 hT hsh hI y5 y4 c4 h17 (by rw [f4.2 12 (by omega)]; exact h12) (fE (fK (fG f2) f3) f4)

