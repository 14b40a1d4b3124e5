theorem P_asL {G : GX} {own nm : String} {cc : ByteArray} {nL : Nat} {ret : Option FieldType} {d kc ks : Nat} {Q : Option Value → Shp → Mem → Prop} {pc : Nat} {ls : List (Option Value)} {rest : List Value} {S : Shp} {I : Mem} {x y : Int64} (h : x = y) (k : PW G own nm cc nL ret d kc ks Q pc ls (.long y :: rest) S I) : PW G own nm cc nL ret d kc ks Q pc ls (.long x :: rest) S I := h ▸ k
/-! letting, in the reference -/
theorem aDn_7 {y q : Nat} : ∀ (b : Nat) (A : Nat → Int32), aDn y q b A 7 = A 7 := by
  intro b
  induction b with
  | zero => intro A; rfl
  | succ b ih => intro A; rw [aDn_s, ih, upd_n (by omega)]
theorem lp_X9_letting {G : GX} {S : Shp} {I T : Mem} {d tn bn n h u e : Nat} {tx : Nat → Tx} {y : Int32} {R : Option (Nat × Int32)} (hsh : SHP S) (hI : RI T I) (hr : RT I tn tx) (hrd : RTd tn tx) (hw : WA (aR I) n) (hn : n ≤ 8) (hu : u ≤ 3) (he : e ≤ 512) (hh : h ≤ 100) (hd : 12 ≤ d) : ∀ (k c : Nat) (M : Mem) (q : Option (Nat × Int32)) (x8 : Option Value), c + k = e → TK I (aR I) M → (∀ b m, q = some (b, m) → b < 1000) → sel (fLet (alX tn tx) (aR I) n u h) k c q = R → PW G RX9 "letting" cX9_letting 9 (some .int) d 0 0 (RO S I T (resV y R)) 88 [some (.ref 55), some (.int (nI h)), some (.int y), some (.int (nI u)), some (.int (nI e)), some (.int (bM q)), some (.int (mC q)), some (.int (nI c)), x8] [] S M := by
  intro k
  induction k with
  | zero =>
    intro c M q x8 hc hM hb2 hR
    have hR : q = R := hR
    subst hR
    cases q with
    | none =>
      refine P_iload7 (pc' := 90) dX9_letting_88 rfl ?_
      refine P_iload4 (pc' := 92) dX9_letting_90 rfl ?_
      refine P_icmp_ge (tgt := 151) (pc' := 95) dX9_letting_92 rfl rfl (fun h92 => ?_) (fun h92 => ?_)
      · refine P_iload5 (pc' := 153) dX9_letting_151 rfl ?_
        refine P_if_ge (tgt := 161) (pc' := 156) dX9_letting_153 rfl rfl (fun h153 => ?_) (fun h153 => ?_)
        · exact absurd h153 (by decide)
        · refine P_ldc (pc' := 158) dX9_letting_156 rfl co_X9_166 ?_
          refine P_goto (tgt := 172) dX9_letting_158 rfl ?_
          refine P_iret dX9_letting_172 ?_
          exact hM.fin hI
      · exact absurd (nI_le (by omega) (by omega)) h92
    | some z =>
      obtain ⟨b', m⟩ := z
      refine P_iload7 (pc' := 90) dX9_letting_88 rfl ?_
      refine P_iload4 (pc' := 92) dX9_letting_90 rfl ?_
      refine P_icmp_ge (tgt := 151) (pc' := 95) dX9_letting_92 rfl rfl (fun h92 => ?_) (fun h92 => ?_)
      · refine P_iload5 (pc' := 153) dX9_letting_151 rfl ?_
        refine P_if_ge (tgt := 161) (pc' := 156) dX9_letting_153 rfl rfl (fun h153 => ?_) (fun h153 => ?_)
        · refine P_iload2 (pc' := 162) dX9_letting_161 rfl ?_
          refine P_if_ne (tgt := 170) (pc' := 165) dX9_letting_162 rfl rfl (fun h162 => ?_) (fun h162 => ?_)
          · refine P_iload6 (pc' := 172) dX9_letting_170 rfl ?_
            refine P_iret dX9_letting_172 ?_
            first
              | (rw [show resV y (some (b', m)) = nI b' from if_pos h162]; exact hM.fin hI)
              | (rw [show resV y (some (b', m)) = m from if_neg h162]; exact hM.fin hI)
          · refine P_iload5 (pc' := 167) dX9_letting_165 rfl ?_
            refine P_goto (tgt := 172) dX9_letting_167 rfl ?_
            refine P_iret dX9_letting_172 ?_
            first
              | (rw [show resV y (some (b', m)) = nI b' from if_pos h162]; exact hM.fin hI)
              | (rw [show resV y (some (b', m)) = m from if_neg h162]; exact hM.fin hI)
        · exact absurd (nI_pos' (by have := hb2 _ _ rfl; omega)) h153
      · exact absurd (nI_le (by omega) (by omega)) h92
  | succ k ih =>
    intro c M q x8 hc hM hb2 hR
    rw [sel_s] at hR
    have hw2 : WA (aDn c u u (aR I)) n := aDn_wa u _ (by omega) hw
    have hfn : ¬ aAgs (aDn c u u (aR I)) n 0 0 = 0 → fLet (alX tn tx) (aR I) n u h c = none := fun z => if_neg z
    have hfs : aAgs (aDn c u u (aR I)) n 0 0 = 0 → fLet (alX tn tx) (aR I) n u h c = some (aSum (aHrs (alX tn tx) n h (aDn c u u (aR I))) 19 n) := fun z => if_pos z
    cases q with
    | none =>
      refine P_iload7 (pc' := 90) dX9_letting_88 rfl ?_
      refine P_iload4 (pc' := 92) dX9_letting_90 rfl ?_
      refine P_icmp_ge (tgt := 151) (pc' := 95) dX9_letting_92 rfl rfl (fun h92 => ?_) (fun h92 => ?_)
      · exact absurd h92 (nI_ge (by omega) (by omega))
      · refine P_aload0 (pc' := 96) dX9_letting_95 rfl ?_
        refine P_iload7 (pc' := 98) dX9_letting_96 rfl ?_
        refine P_iload3 (pc' := 99) dX9_letting_98 rfl ?_
        refine P_callV2 (pc' := 102) dX9_letting_99 rfl lk_X9_162 (l_55 hsh) (t_55 hsh) (c_X9_stand (d := 2) (y := c) (q := u) hsh (by omega) (by omega) (by omega)) (by omega) (Nat.le_of_ble_eq_true rfl) (fun r S2 I2 hq => ?_)
        obtain ⟨rfl, rfl, hP2⟩ := hq
        rw [hM.1] at hP2
        have hM2 := hM.ps hP2
        refine P_aload0 (pc' := 103) dX9_letting_102 rfl ?_
        refine P_callV0 (pc' := 106) dX9_letting_103 rfl lk_X9_147 (l_55 hsh) (t_55 hsh) (c_X9_against (d := 4) (n := n) hsh (by rw [hM2.1]; exact hw2) (by omega)) (by omega) (Nat.le_of_ble_eq_true rfl) (fun r S' I' hq => ?_)
        obtain ⟨rfl, rfl, rfl⟩ := hq
        rw [hM2.1]
        refine P_if_ne (tgt := 141) (pc' := 109) dX9_letting_106 rfl rfl (fun h106 => ?_) (fun h106 => ?_)
        · refine P_aload0 (pc' := 142) dX9_letting_141 rfl ?_
          refine P_callV0 (pc' := 145) dX9_letting_142 rfl lk_X9_159 (l_55 hsh) (t_55 hsh) (c_X9_putsBack (d := 1) hsh) (by omega) (Nat.le_of_ble_eq_true rfl) (fun r S' I' hq => ?_)
          obtain ⟨rfl, rfl, rfl⟩ := hq
          refine P_iinc7 (pc' := 148) dX9_letting_145 rfl (nI_1 c) (by decide) rfl ?_
          refine P_goto (tgt := 88) dX9_letting_148 rfl ?_
          first
            | (rw [selS_n (hfn h106)] at hR; exact ih (c + 1) _ none _ (by omega) hM2.back hb2 hR)
            | (rw [selS_0 (hfs h106)] at hR; exact ih (c + 1) _ (some (c, aSum (aHrs (alX tn tx) n h (aDn c u u (aR I))) 19 n)) _ (by omega) hM3.back (fun b m z => by cases z; omega) hR)
        · refine P_aload0 (pc' := 110) dX9_letting_109 rfl ?_
          refine P_iload1 (pc' := 111) dX9_letting_110 rfl ?_
          refine P_callV1 (pc' := 114) dX9_letting_111 rfl lk_X9_143 (l_55 hsh) (t_55 hsh) (c_X9_goesOn (d := 6) (n := n) hsh (hM2.rt (aDn_7 _ _) hr) hrd (by rw [hM2.1]; exact hw2) (by omega) (by omega)) (by omega) (Nat.le_of_ble_eq_true rfl) (fun r S3 I3 hq => ?_)
          obtain ⟨rfl, rfl, hP⟩ := hq
          rw [hM2.1] at hP
          have hM3 := hM2.ps hP
          have hz3 := hM3.z (aHrs_wa hw2)
          refine P_aload0 (pc' := 115) dX9_letting_114 rfl ?_
          refine P_iconst (pc' := 116) dX9_letting_115 rfl (v := 3) rfl ?_
          refine P_callV1 (pc' := 119) dX9_letting_116 rfl lk_X9_140 (l_55 hsh) (t_55 hsh) (c_X9_sumOf (d := 2) (k := 3) hsh hz3 (by omega) (by decide) (by omega)) (by omega) (Nat.le_of_ble_eq_true rfl) (fun r S' I' hq => ?_)
          obtain ⟨rfl, rfl, rfl⟩ := hq
          refine P_as (show aSum (aR I3) (16 + 3) n = aSum (aHrs (alX tn tx) n h (aDn c u u (aR I))) 19 n by rw [hM3.1]) ?_
          refine P_istore8 (pc' := 121) dX9_letting_119 rfl (by decide) rfl ?_
          refine P_iload5 (pc' := 123) dX9_letting_121 rfl ?_
          refine P_if_lt (tgt := 133) (pc' := 126) dX9_letting_123 rfl rfl (fun h123 => ?_) (fun h123 => ?_)
          · refine P_iload7 (pc' := 135) dX9_letting_133 rfl ?_
            refine P_istore5 (pc' := 137) dX9_letting_135 rfl (by decide) rfl ?_
            refine P_iload8 (pc' := 139) dX9_letting_137 rfl ?_
            refine P_istore6 (pc' := 141) dX9_letting_139 rfl (by decide) rfl ?_
            refine P_aload0 (pc' := 142) dX9_letting_141 rfl ?_
            refine P_callV0 (pc' := 145) dX9_letting_142 rfl lk_X9_159 (l_55 hsh) (t_55 hsh) (c_X9_putsBack (d := 1) hsh) (by omega) (Nat.le_of_ble_eq_true rfl) (fun r S' I' hq => ?_)
            obtain ⟨rfl, rfl, rfl⟩ := hq
            refine P_iinc7 (pc' := 148) dX9_letting_145 rfl (nI_1 c) (by decide) rfl ?_
            refine P_goto (tgt := 88) dX9_letting_148 rfl ?_
            first
              | (rw [selS_n (hfn h106)] at hR; exact ih (c + 1) _ none _ (by omega) hM2.back hb2 hR)
              | (rw [selS_0 (hfs h106)] at hR; exact ih (c + 1) _ (some (c, aSum (aHrs (alX tn tx) n h (aDn c u u (aR I))) 19 n)) _ (by omega) hM3.back (fun b m z => by cases z; omega) hR)
          · exact absurd (by decide) h123
    | some z =>
      obtain ⟨b', m⟩ := z
      refine P_iload7 (pc' := 90) dX9_letting_88 rfl ?_
      refine P_iload4 (pc' := 92) dX9_letting_90 rfl ?_
      refine P_icmp_ge (tgt := 151) (pc' := 95) dX9_letting_92 rfl rfl (fun h92 => ?_) (fun h92 => ?_)
      · exact absurd h92 (nI_ge (by omega) (by omega))
      · refine P_aload0 (pc' := 96) dX9_letting_95 rfl ?_
        refine P_iload7 (pc' := 98) dX9_letting_96 rfl ?_
        refine P_iload3 (pc' := 99) dX9_letting_98 rfl ?_
        refine P_callV2 (pc' := 102) dX9_letting_99 rfl lk_X9_162 (l_55 hsh) (t_55 hsh) (c_X9_stand (d := 2) (y := c) (q := u) hsh (by omega) (by omega) (by omega)) (by omega) (Nat.le_of_ble_eq_true rfl) (fun r S2 I2 hq => ?_)
        obtain ⟨rfl, rfl, hP2⟩ := hq
        rw [hM.1] at hP2
        have hM2 := hM.ps hP2
        refine P_aload0 (pc' := 103) dX9_letting_102 rfl ?_
        refine P_callV0 (pc' := 106) dX9_letting_103 rfl lk_X9_147 (l_55 hsh) (t_55 hsh) (c_X9_against (d := 4) (n := n) hsh (by rw [hM2.1]; exact hw2) (by omega)) (by omega) (Nat.le_of_ble_eq_true rfl) (fun r S' I' hq => ?_)
        obtain ⟨rfl, rfl, rfl⟩ := hq
        rw [hM2.1]
        refine P_if_ne (tgt := 141) (pc' := 109) dX9_letting_106 rfl rfl (fun h106 => ?_) (fun h106 => ?_)
        · refine P_aload0 (pc' := 142) dX9_letting_141 rfl ?_
          refine P_callV0 (pc' := 145) dX9_letting_142 rfl lk_X9_159 (l_55 hsh) (t_55 hsh) (c_X9_putsBack (d := 1) hsh) (by omega) (Nat.le_of_ble_eq_true rfl) (fun r S' I' hq => ?_)
          obtain ⟨rfl, rfl, rfl⟩ := hq
          refine P_iinc7 (pc' := 148) dX9_letting_145 rfl (nI_1 c) (by decide) rfl ?_
          refine P_goto (tgt := 88) dX9_letting_148 rfl ?_
          first
            | (rw [selS_n (hfn h106)] at hR; exact ih (c + 1) _ (some (b', m)) _ (by omega) hM2.back hb2 hR)
            | (rw [selS_k (m := m) (hfs h106) (Int32.not_lt.mpr h130)] at hR; exact ih (c + 1) _ (some (b', m)) _ (by omega) hM3.back hb2 hR)
            | (rw [selS_t (m := m) (hfs h106) (Int32.not_le.mp h130)] at hR; exact ih (c + 1) _ (some (c, aSum (aHrs (alX tn tx) n h (aDn c u u (aR I))) 19 n)) _ (by omega) hM3.back (fun b m z => by cases z; omega) hR)
        · refine P_aload0 (pc' := 110) dX9_letting_109 rfl ?_
          refine P_iload1 (pc' := 111) dX9_letting_110 rfl ?_
          refine P_callV1 (pc' := 114) dX9_letting_111 rfl lk_X9_143 (l_55 hsh) (t_55 hsh) (c_X9_goesOn (d := 6) (n := n) hsh (hM2.rt (aDn_7 _ _) hr) hrd (by rw [hM2.1]; exact hw2) (by omega) (by omega)) (by omega) (Nat.le_of_ble_eq_true rfl) (fun r S3 I3 hq => ?_)
          obtain ⟨rfl, rfl, hP⟩ := hq
          rw [hM2.1] at hP
          have hM3 := hM2.ps hP
          have hz3 := hM3.z (aHrs_wa hw2)
          refine P_aload0 (pc' := 115) dX9_letting_114 rfl ?_
          refine P_iconst (pc' := 116) dX9_letting_115 rfl (v := 3) rfl ?_
          refine P_callV1 (pc' := 119) dX9_letting_116 rfl lk_X9_140 (l_55 hsh) (t_55 hsh) (c_X9_sumOf (d := 2) (k := 3) hsh hz3 (by omega) (by decide) (by omega)) (by omega) (Nat.le_of_ble_eq_true rfl) (fun r S' I' hq => ?_)
          obtain ⟨rfl, rfl, rfl⟩ := hq
          refine P_as (show aSum (aR I3) (16 + 3) n = aSum (aHrs (alX tn tx) n h (aDn c u u (aR I))) 19 n by rw [hM3.1]) ?_
          refine P_istore8 (pc' := 121) dX9_letting_119 rfl (by decide) rfl ?_
          refine P_iload5 (pc' := 123) dX9_letting_121 rfl ?_
          refine P_if_lt (tgt := 133) (pc' := 126) dX9_letting_123 rfl rfl (fun h123 => ?_) (fun h123 => ?_)
          · exact absurd h123 (nI_pos (by have := hb2 _ _ rfl; omega))
          · refine P_iload8 (pc' := 128) dX9_letting_126 rfl ?_
            refine P_iload6 (pc' := 130) dX9_letting_128 rfl ?_
            refine P_icmp_le (tgt := 141) (pc' := 133) dX9_letting_130 rfl rfl (fun h130 => ?_) (fun h130 => ?_)
            · refine P_aload0 (pc' := 142) dX9_letting_141 rfl ?_
              refine P_callV0 (pc' := 145) dX9_letting_142 rfl lk_X9_159 (l_55 hsh) (t_55 hsh) (c_X9_putsBack (d := 1) hsh) (by omega) (Nat.le_of_ble_eq_true rfl) (fun r S' I' hq => ?_)
              obtain ⟨rfl, rfl, rfl⟩ := hq
              refine P_iinc7 (pc' := 148) dX9_letting_145 rfl (nI_1 c) (by decide) rfl ?_
              refine P_goto (tgt := 88) dX9_letting_148 rfl ?_
              first
                | (rw [selS_n (hfn h106)] at hR; exact ih (c + 1) _ (some (b', m)) _ (by omega) hM2.back hb2 hR)
                | (rw [selS_k (m := m) (hfs h106) (Int32.not_lt.mpr h130)] at hR; exact ih (c + 1) _ (some (b', m)) _ (by omega) hM3.back hb2 hR)
                | (rw [selS_t (m := m) (hfs h106) (Int32.not_le.mp h130)] at hR; exact ih (c + 1) _ (some (c, aSum (aHrs (alX tn tx) n h (aDn c u u (aR I))) 19 n)) _ (by omega) hM3.back (fun b m z => by cases z; omega) hR)
            · refine P_iload7 (pc' := 135) dX9_letting_133 rfl ?_
              refine P_istore5 (pc' := 137) dX9_letting_135 rfl (by decide) rfl ?_
              refine P_iload8 (pc' := 139) dX9_letting_137 rfl ?_
              refine P_istore6 (pc' := 141) dX9_letting_139 rfl (by decide) rfl ?_
              refine P_aload0 (pc' := 142) dX9_letting_141 rfl ?_
              refine P_callV0 (pc' := 145) dX9_letting_142 rfl lk_X9_159 (l_55 hsh) (t_55 hsh) (c_X9_putsBack (d := 1) hsh) (by omega) (Nat.le_of_ble_eq_true rfl) (fun r S' I' hq => ?_)
              obtain ⟨rfl, rfl, rfl⟩ := hq
              refine P_iinc7 (pc' := 148) dX9_letting_145 rfl (nI_1 c) (by decide) rfl ?_
              refine P_goto (tgt := 88) dX9_letting_148 rfl ?_
              first
                | (rw [selS_n (hfn h106)] at hR; exact ih (c + 1) _ (some (b', m)) _ (by omega) hM2.back hb2 hR)
                | (rw [selS_k (m := m) (hfs h106) (Int32.not_lt.mpr h130)] at hR; exact ih (c + 1) _ (some (b', m)) _ (by omega) hM3.back hb2 hR)
                | (rw [selS_t (m := m) (hfs h106) (Int32.not_le.mp h130)] at hR; exact ih (c + 1) _ (some (c, aSum (aHrs (alX tn tx) n h (aDn c u u (aR I))) 19 n)) _ (by omega) hM3.back (fun b m z => by cases z; omega) hR)
theorem r_letting {G : GX} {S : Shp} {I T : Mem} {d tn bn : Nat} {tx : Nat → Tx} (hT : KT T tn bn tx) (hsh : SHP S) (hI : RI T I) (v y : Int32) (hd : 12 ≤ d) : PM G yX9_letting cX9_letting 9 (some .int) d 0 0 [.ref 55, .int v, .int y] S I (RO S I T (vLet (alX tn tx) (aR T) v y)) := by
  obtain ⟨n, hn, hw, eR, hz, hr, hrd⟩ := hT.n hI
  have ev : vLet (alX tn tx) (aR T) v y = if wi v 1 4 = 0 then -1000000001 else if wi y 0 1 = 0 then -1000000001 else if nI n = 0 then -1000000005 else resV y (sel (fLet (alX tn tx) (aR T) n (min n 3) v.toNatClampNeg) (8 ^ (min n 3)) 0 none) := by unfold vLet; rw [hw.1, nI_clamp (by omega)]
  rw [ev]
  refine PM.of (ls := [some (.ref 55), some (.int v), some (.int y), none, none, none, none, none, none]) (by decide) rfl (Nat.le_of_ble_eq_true rfl) rfl ?_
  show PW G RX9 "letting" _ _ _ _ _ _ _ _ _ _ _ _
  by_cases hv : wi v 1 4 = 0
  · rw [if_pos hv]
    refine P_iload1 (pc' := 1) dX9_letting_0 rfl ?_
    refine P_iconst (pc' := 2) dX9_letting_1 rfl (v := 1) rfl ?_
    refine P_iconst (pc' := 3) dX9_letting_2 rfl (v := 4) rfl ?_
    refine P_callS3 (pc' := 6) dX9_letting_3 rfl lk_X9_75 (c_X9_in (d := 0) v 1 4) (by omega) (Nat.le_of_ble_eq_true rfl) (fun r S' I' hq => ?_)
    obtain ⟨rfl, rfl, rfl⟩ := hq
    refine P_if_eq (tgt := 18) (pc' := 9) dX9_letting_6 rfl rfl (fun h6 => ?_) (fun h6 => ?_)
    · refine P_ldc (pc' := 20) dX9_letting_18 rfl co_X9_83 ?_
      refine P_iret dX9_letting_20 ?_
      exact RO.id hI
    · exact absurd hv h6
  by_cases hy : wi y 0 1 = 0
  · rw [if_neg hv, if_pos hy]
    refine P_iload1 (pc' := 1) dX9_letting_0 rfl ?_
    refine P_iconst (pc' := 2) dX9_letting_1 rfl (v := 1) rfl ?_
    refine P_iconst (pc' := 3) dX9_letting_2 rfl (v := 4) rfl ?_
    refine P_callS3 (pc' := 6) dX9_letting_3 rfl lk_X9_75 (c_X9_in (d := 0) v 1 4) (by omega) (Nat.le_of_ble_eq_true rfl) (fun r S' I' hq => ?_)
    obtain ⟨rfl, rfl, rfl⟩ := hq
    refine P_if_eq (tgt := 18) (pc' := 9) dX9_letting_6 rfl rfl (fun h6 => ?_) (fun h6 => ?_)
    · exact absurd h6 hv
    · refine P_iload2 (pc' := 10) dX9_letting_9 rfl ?_
      refine P_iconst (pc' := 11) dX9_letting_10 rfl (v := 0) rfl ?_
      refine P_iconst (pc' := 12) dX9_letting_11 rfl (v := 1) rfl ?_
      refine P_callS3 (pc' := 15) dX9_letting_12 rfl lk_X9_75 (c_X9_in (d := 0) y 0 1) (by omega) (Nat.le_of_ble_eq_true rfl) (fun r S' I' hq => ?_)
      obtain ⟨rfl, rfl, rfl⟩ := hq
      refine P_if_ne (tgt := 21) (pc' := 18) dX9_letting_15 rfl rfl (fun h15 => ?_) (fun h15 => ?_)
      · exact absurd hy h15
      · refine P_ldc (pc' := 20) dX9_letting_18 rfl co_X9_83 ?_
        refine P_iret dX9_letting_20 ?_
        exact RO.id hI
  rw [if_neg hv, if_neg hy]
  obtain ⟨i, i1, i2, rfl⟩ := wi_b1 (m := 4) (by decide) hv
  rw [nI_clamp (by omega), ← eR]
  have hwI : WA (aR I) n := by rw [eR]; exact hw
  have key : ∀ e : Nat, e = (if n = 0 then 0 else 8 ^ (min n 3)) → PW G RX9 "letting" cX9_letting 9 (some .int) d 0 0 (RO S I T (if nI n = 0 then -1000000005 else resV y (sel (fLet (alX tn tx) (aR I) n (min n 3) i) (8 ^ (min n 3)) 0 none))) 77 [some (.ref 55), some (.int (nI i)), some (.int y), some (.int (nI (min n 3))), none, none, none, none, none] [.int (nI e)] S (cpR I 56 59 61) := by
    intro e he
    have he5 : e ≤ 512 := by
      rw [he]
      split
      · omega
      · exact Nat.pow_le_pow_right (by decide) (show min n 3 ≤ 3 by omega)
    have eQ : (if nI n = 0 then -1000000005 else resV y (sel (fLet (alX tn tx) (aR I) n (min n 3) i) (8 ^ (min n 3)) 0 none)) = resV y (sel (fLet (alX tn tx) (aR I) n (min n 3) i) e 0 none) := by
      by_cases n0 : n = 0
      · rw [if_pos (by rw [n0]; rfl), he, if_pos n0]; rfl
      · rw [if_neg (nI_ne0 (by omega) (by omega)), he, if_neg n0]
    rw [eQ]
    refine P_istore4 (pc' := 79) dX9_letting_77 rfl (by decide) rfl ?_
    refine P_iconst (pc' := 80) dX9_letting_79 rfl (v := (-1)) rfl ?_
    refine P_istore5 (pc' := 82) dX9_letting_80 rfl (by decide) rfl ?_
    refine P_iconst (pc' := 83) dX9_letting_82 rfl (v := 0) rfl ?_
    refine P_istore6 (pc' := 85) dX9_letting_83 rfl (by decide) rfl ?_
    refine P_iconst (pc' := 86) dX9_letting_85 rfl (v := 0) rfl ?_
    refine P_istore7 (pc' := 88) dX9_letting_86 rfl (by decide) rfl ?_
    exact lp_X9_letting (bn := bn) hsh hI hr hrd hwI hn (by omega) he5 (by omega) hd e 0 _ none _ (by omega) (TK.start I) (fun _ _ z => by cases z) rfl
  have key2 : PW G RX9 "letting" cX9_letting 9 (some .int) d 0 0 (RO S I T (if nI n = 0 then -1000000005 else resV y (sel (fLet (alX tn tx) (aR I) n (min n 3) i) (8 ^ (min n 3)) 0 none))) 45 [some (.ref 55), some (.int (nI i)), some (.int y), none, none, none, none, none, none] [.int (nI (min n 3))] S (cpR I 56 59 61) := by
    have cs : min n 3 = 0 ∨ min n 3 = 1 ∨ min n 3 = 2 ∨ min n 3 = 3 := by omega
    rcases cs with z | z | z | z
    · have k0 := key 0 (by rw [if_pos (by omega)])
      rw [z] at k0 ⊢
      refine P_istore3 (pc' := 46) dX9_letting_45 rfl (by decide) rfl ?_
      refine P_iload3 (pc' := 47) dX9_letting_46 rfl ?_
      refine P_if_ne (tgt := 54) (pc' := 50) dX9_letting_47 rfl rfl (fun h47 => ?_) (fun h47 => ?_)
      · exact absurd (by decide) h47
      · refine P_iconst (pc' := 51) dX9_letting_50 rfl (v := 0) rfl ?_
        refine P_goto (tgt := 77) dX9_letting_51 rfl ?_
        exact k0
    · have k0 := key 8 (by rw [if_neg (by omega), z])
      rw [z] at k0 ⊢
      refine P_istore3 (pc' := 46) dX9_letting_45 rfl (by decide) rfl ?_
      refine P_iload3 (pc' := 47) dX9_letting_46 rfl ?_
      refine P_if_ne (tgt := 54) (pc' := 50) dX9_letting_47 rfl rfl (fun h47 => ?_) (fun h47 => ?_)
      · refine P_iload3 (pc' := 55) dX9_letting_54 rfl ?_
        refine P_iconst (pc' := 56) dX9_letting_55 rfl (v := 1) rfl ?_
        refine P_icmp_ne (tgt := 64) (pc' := 59) dX9_letting_56 rfl rfl (fun h56 => ?_) (fun h56 => ?_)
        · exact absurd (by decide) h56
        · refine P_bipush (pc' := 61) dX9_letting_59 rfl (v := 8) rfl ?_
          refine P_goto (tgt := 77) dX9_letting_61 rfl ?_
          exact k0
      · exact absurd h47 (by decide)
    · have k0 := key 64 (by rw [if_neg (by omega), z])
      rw [z] at k0 ⊢
      refine P_istore3 (pc' := 46) dX9_letting_45 rfl (by decide) rfl ?_
      refine P_iload3 (pc' := 47) dX9_letting_46 rfl ?_
      refine P_if_ne (tgt := 54) (pc' := 50) dX9_letting_47 rfl rfl (fun h47 => ?_) (fun h47 => ?_)
      · refine P_iload3 (pc' := 55) dX9_letting_54 rfl ?_
        refine P_iconst (pc' := 56) dX9_letting_55 rfl (v := 1) rfl ?_
        refine P_icmp_ne (tgt := 64) (pc' := 59) dX9_letting_56 rfl rfl (fun h56 => ?_) (fun h56 => ?_)
        · refine P_iload3 (pc' := 65) dX9_letting_64 rfl ?_
          refine P_iconst (pc' := 66) dX9_letting_65 rfl (v := 2) rfl ?_
          refine P_icmp_ne (tgt := 74) (pc' := 69) dX9_letting_66 rfl rfl (fun h66 => ?_) (fun h66 => ?_)
          · exact absurd (by decide) h66
          · refine P_bipush (pc' := 71) dX9_letting_69 rfl (v := 64) rfl ?_
            refine P_goto (tgt := 77) dX9_letting_71 rfl ?_
            exact k0
        · exact absurd h56 (by decide)
      · exact absurd h47 (by decide)
    · have k0 := key 512 (by rw [if_neg (by omega), z])
      rw [z] at k0 ⊢
      refine P_istore3 (pc' := 46) dX9_letting_45 rfl (by decide) rfl ?_
      refine P_iload3 (pc' := 47) dX9_letting_46 rfl ?_
      refine P_if_ne (tgt := 54) (pc' := 50) dX9_letting_47 rfl rfl (fun h47 => ?_) (fun h47 => ?_)
      · refine P_iload3 (pc' := 55) dX9_letting_54 rfl ?_
        refine P_iconst (pc' := 56) dX9_letting_55 rfl (v := 1) rfl ?_
        refine P_icmp_ne (tgt := 64) (pc' := 59) dX9_letting_56 rfl rfl (fun h56 => ?_) (fun h56 => ?_)
        · refine P_iload3 (pc' := 65) dX9_letting_64 rfl ?_
          refine P_iconst (pc' := 66) dX9_letting_65 rfl (v := 2) rfl ?_
          refine P_icmp_ne (tgt := 74) (pc' := 69) dX9_letting_66 rfl rfl (fun h66 => ?_) (fun h66 => ?_)
          · refine P_sipush (pc' := 77) dX9_letting_74 rfl (v := 512) rfl ?_
            exact k0
          · exact absurd h66 (by decide)
        · exact absurd h56 (by decide)
      · exact absurd h47 (by decide)
  have z1 : cpR I 56 59 61 56 1 = nI n := by rw [cpR_o (by decide)]; exact hz
  refine P_iload1 (pc' := 1) dX9_letting_0 rfl ?_
  refine P_iconst (pc' := 2) dX9_letting_1 rfl (v := 1) rfl ?_
  refine P_iconst (pc' := 3) dX9_letting_2 rfl (v := 4) rfl ?_
  refine P_callS3 (pc' := 6) dX9_letting_3 rfl lk_X9_75 (c_X9_in (d := 0) _ 1 4) (by omega) (Nat.le_of_ble_eq_true rfl) (fun r S' I' hq => ?_)
  obtain ⟨rfl, rfl, rfl⟩ := hq
  refine P_if_eq (tgt := 18) (pc' := 9) dX9_letting_6 rfl rfl (fun h6 => ?_) (fun h6 => ?_)
  · exact absurd h6 hv
  · refine P_iload2 (pc' := 10) dX9_letting_9 rfl ?_
    refine P_iconst (pc' := 11) dX9_letting_10 rfl (v := 0) rfl ?_
    refine P_iconst (pc' := 12) dX9_letting_11 rfl (v := 1) rfl ?_
    refine P_callS3 (pc' := 15) dX9_letting_12 rfl lk_X9_75 (c_X9_in (d := 0) y 0 1) (by omega) (Nat.le_of_ble_eq_true rfl) (fun r S' I' hq => ?_)
    obtain ⟨rfl, rfl, rfl⟩ := hq
    refine P_if_ne (tgt := 21) (pc' := 18) dX9_letting_15 rfl rfl (fun h15 => ?_) (fun h15 => ?_)
    · refine P_aload0 (pc' := 22) dX9_letting_21 rfl ?_
      refine P_callV0 (pc' := 25) dX9_letting_22 rfl lk_X9_153 (l_55 hsh) (t_55 hsh) (c_X9_thinks (d := 1) hsh) (by omega) (Nat.le_of_ble_eq_true rfl) (fun r S' I' hq => ?_)
      obtain ⟨rfl, rfl, rfl⟩ := hq
      refine P_aload0 (pc' := 26) dX9_letting_25 rfl ?_
      refine P_getr (pc' := 29) dX9_letting_26 rfl fl_X9_9 rfl (l_55 hsh) (t_55 hsh) (q_55_0 hsh) ?_
      refine P_iconst (pc' := 30) dX9_letting_29 rfl (v := 1) rfl ?_
      refine P_iald (pc' := 31) dX9_letting_30 rfl (l_56 hsh) (t_56 hsh) (j := 1) rfl (by decide) (by decide) ?_
      refine P_as z1 ?_
      refine P_iconst (pc' := 32) dX9_letting_31 rfl (v := 3) rfl ?_
      refine P_icmp_le (tgt := 39) (pc' := 35) dX9_letting_32 rfl rfl (fun h32 => ?_) (fun h32 => ?_)
      · refine P_aload0 (pc' := 40) dX9_letting_39 rfl ?_
        refine P_getr (pc' := 43) dX9_letting_40 rfl fl_X9_9 rfl (l_55 hsh) (t_55 hsh) (q_55_0 hsh) ?_
        refine P_iconst (pc' := 44) dX9_letting_43 rfl (v := 1) rfl ?_
        refine P_iald (pc' := 45) dX9_letting_44 rfl (l_56 hsh) (t_56 hsh) (j := 1) rfl (by decide) (by decide) ?_
        first
          | (refine P_as z1 ?_
             rw [show min n 3 = n from Nat.min_eq_left ((nI_leI (b := 3) (by omega) (by decide)).mp h32)] at key2 ⊢
             exact key2)
          | (rw [show min n 3 = 3 from Nat.min_eq_right (by have := g0 (a := 3) (b := n) h32 (by decide) (by omega); omega)] at key2 ⊢
             exact key2)
      · refine P_iconst (pc' := 36) dX9_letting_35 rfl (v := 3) rfl ?_
        refine P_goto (tgt := 45) dX9_letting_36 rfl ?_
        first
          | (refine P_as z1 ?_
             rw [show min n 3 = n from Nat.min_eq_left ((nI_leI (b := 3) (by omega) (by decide)).mp h32)] at key2 ⊢
             exact key2)
          | (rw [show min n 3 = 3 from Nat.min_eq_right (by have := g0 (a := 3) (b := n) h32 (by decide) (by omega); omega)] at key2 ⊢
             exact key2)
    · exact absurd h15 hy
/-! rents, in the reference -/
def aFc (A : Nat → Int32) (v : Int32) (c : Nat) : Nat → Int32 := fun i => if 8 ≤ i ∧ i < 8 + c then v else A i
theorem aFc_0 (A : Nat → Int32) (v : Int32) : aFc A v 0 = A := by
  funext i
  exact if_neg (by omega)
theorem aFc_s (A : Nat → Int32) (v : Int32) (c : Nat) : upd (aFc A v c) (8 + c) v = aFc A v (c + 1) := by
  funext i
  unfold upd aFc
  by_cases h : i = 8 + c
  · rw [if_pos h, if_pos (by omega)]
  · rw [if_neg h]
    by_cases q : 8 ≤ i ∧ i < 8 + c
    · rw [if_pos q, if_pos (by omega)]
    · rw [if_neg q, if_neg (by omega)]
theorem lp_X9_fill {G : GX} {S : Shp} {I : Mem} {d c h : Nat} {y v1 v2 : Int32} {A : Nat → Int32} {Q : Option Value → Shp → Mem → Prop} (hsh : SHP S) (hQ : ∀ M x6, TK I (aFl A (nI c)) M → PW G RX9 "bestRent" cX9_bestRent 7 (some .int) d 0 0 Q 69 [some (.ref 55), some (.int (nI h)), some (.int y), some (.int v1), some (.int v2), some (.int (nI c)), x6] [] S M) : ∀ (k i : Nat) (M : Mem), i + k = 8 → TK I (aFc A (nI c) i) M → PW G RX9 "bestRent" cX9_bestRent 7 (some .int) d 0 0 Q 44 [some (.ref 55), some (.int (nI h)), some (.int y), some (.int v1), some (.int v2), some (.int (nI c)), some (.int (nI i))] [] S M := by
  intro k
  induction k with
  | zero =>
    intro i M hi hM
    have hi : i = 8 := by omega
    subst hi
    refine P_iload6 (pc' := 46) dX9_bestRent_44 rfl ?_
    refine P_bipush (pc' := 48) dX9_bestRent_46 rfl (v := 8) rfl ?_
    refine P_icmp_ge (tgt := 69) (pc' := 51) dX9_bestRent_48 rfl rfl (fun h48 => ?_) (fun h48 => ?_)
    · exact hQ M _ hM
    · exact absurd (by decide) h48
  | succ k ih =>
    intro i M hi hM
    refine P_iload6 (pc' := 46) dX9_bestRent_44 rfl ?_
    refine P_bipush (pc' := 48) dX9_bestRent_46 rfl (v := 8) rfl ?_
    refine P_icmp_ge (tgt := 69) (pc' := 51) dX9_bestRent_48 rfl rfl (fun h48 => ?_) (fun h48 => ?_)
    · exact absurd h48 (nI_ge (a := i) (b := 8) (by omega) (by decide))
    · refine P_aload0 (pc' := 52) dX9_bestRent_51 rfl ?_
      refine P_getr (pc' := 55) dX9_bestRent_52 rfl fl_X9_9 rfl (l_55 hsh) (t_55 hsh) (q_55_0 hsh) ?_
      refine P_bipush (pc' := 57) dX9_bestRent_55 rfl (v := 8) rfl ?_
      refine P_iload6 (pc' := 59) dX9_bestRent_57 rfl ?_
      refine P_iadd (pc' := 60) dX9_bestRent_59 rfl ?_
      refine P_as (nI_add 8 i) ?_
      refine P_iload5 (pc' := 62) dX9_bestRent_60 rfl ?_
      refine P_iast (pc' := 63) dX9_bestRent_62 rfl (l_56 hsh) (t_56 hsh) (j := 8 + i) rfl (by omega) (by decide) ?_
      refine P_iinc6 (pc' := 66) dX9_bestRent_63 rfl (nI_1 i) (by decide) rfl ?_
      refine P_goto (tgt := 44) dX9_bestRent_66 rfl ?_
      have hM2 := hM.ps (PsR.put (I := M) (i := 8 + i) (v := nI c) (by omega))
      rw [hM.1, aFc_s] at hM2
      exact ih (i + 1) _ (by omega) hM2
theorem lp_X9_bestRent {G : GX} {S : Shp} {I T : Mem} {d tn bn n h : Nat} {tx : Nat → Tx} {y : Int32} {R : Option (Nat × Int32)} (hsh : SHP S) (hI : RI T I) (hr : RT I tn tx) (hrd : RTd tn tx) (hw : WA (aR I) n) (hn : n ≤ 8) (hh : h ≤ 100) (hd : 12 ≤ d) : ∀ (k c : Nat) (M : Mem) (q : Option (Nat × Int32)) (x6 : Option Value), c + k = 10 → TK I (aR I) M → (∀ b m, q = some (b, m) → b < 1000) → sel (fRen (alX tn tx) (aR I) n h) k c q = R → PW G RX9 "bestRent" cX9_bestRent 7 (some .int) d 0 0 (RO S I T (resV y R)) 34 [some (.ref 55), some (.int (nI h)), some (.int y), some (.int (bM q)), some (.int (mC q)), some (.int (nI c)), x6] [] S M := by
  intro k
  induction k with
  | zero =>
    intro c M q x6 hc hM hb2 hR
    have hc : c = 10 := by omega
    subst hc
    have hR : q = R := hR
    subst hR
    cases q with
    | none =>
      refine P_iload5 (pc' := 36) dX9_bestRent_34 rfl ?_
      refine P_bipush (pc' := 38) dX9_bestRent_36 rfl (v := 10) rfl ?_
      refine P_icmp_ge (tgt := 118) (pc' := 41) dX9_bestRent_38 rfl rfl (fun h38 => ?_) (fun h38 => ?_)
      · refine P_iload3 (pc' := 119) dX9_bestRent_118 rfl ?_
        refine P_if_ge (tgt := 127) (pc' := 122) dX9_bestRent_119 rfl rfl (fun h119 => ?_) (fun h119 => ?_)
        · exact absurd h119 (by decide)
        · refine P_ldc (pc' := 124) dX9_bestRent_122 rfl co_X9_166 ?_
          refine P_goto (tgt := 137) dX9_bestRent_124 rfl ?_
          refine P_iret dX9_bestRent_137 ?_
          exact hM.fin hI
      · exact absurd (by decide) h38
    | some z =>
      obtain ⟨b', m⟩ := z
      refine P_iload5 (pc' := 36) dX9_bestRent_34 rfl ?_
      refine P_bipush (pc' := 38) dX9_bestRent_36 rfl (v := 10) rfl ?_
      refine P_icmp_ge (tgt := 118) (pc' := 41) dX9_bestRent_38 rfl rfl (fun h38 => ?_) (fun h38 => ?_)
      · refine P_iload3 (pc' := 119) dX9_bestRent_118 rfl ?_
        refine P_if_ge (tgt := 127) (pc' := 122) dX9_bestRent_119 rfl rfl (fun h119 => ?_) (fun h119 => ?_)
        · refine P_iload2 (pc' := 128) dX9_bestRent_127 rfl ?_
          refine P_if_ne (tgt := 135) (pc' := 131) dX9_bestRent_128 rfl rfl (fun h128 => ?_) (fun h128 => ?_)
          · refine P_iload4 (pc' := 137) dX9_bestRent_135 rfl ?_
            refine P_iret dX9_bestRent_137 ?_
            first
              | (rw [show resV y (some (b', m)) = nI b' from if_pos h128]; exact hM.fin hI)
              | (rw [show resV y (some (b', m)) = m from if_neg h128]; exact hM.fin hI)
          · refine P_iload3 (pc' := 132) dX9_bestRent_131 rfl ?_
            refine P_goto (tgt := 137) dX9_bestRent_132 rfl ?_
            refine P_iret dX9_bestRent_137 ?_
            first
              | (rw [show resV y (some (b', m)) = nI b' from if_pos h128]; exact hM.fin hI)
              | (rw [show resV y (some (b', m)) = m from if_neg h128]; exact hM.fin hI)
        · exact absurd (nI_pos' (by have := hb2 _ _ rfl; omega)) h119
      · exact absurd (by decide) h38
  | succ k ih =>
    intro c M q x6 hc hM hb2 hR
    rw [sel_s] at hR
    have hw2 : WA (aFl (aR I) (nI c)) n := aFl_wa hw
    have hfn : ¬ aDebt (aHrs (alX tn tx) n h (aFl (aR I) (nI c))) n 0 = 0 → fRen (alX tn tx) (aR I) n h c = none := fun z => if_neg z
    have hfs : aDebt (aHrs (alX tn tx) n h (aFl (aR I) (nI c))) n 0 = 0 → fRen (alX tn tx) (aR I) n h c = some (aHrs (alX tn tx) n h (aFl (aR I) (nI c)) 6) := fun z => if_pos z
    have key : ∀ M2 x6, TK I (aFl (aR I) (nI c)) M2 → PW G RX9 "bestRent" cX9_bestRent 7 (some .int) d 0 0 (RO S I T (resV y R)) 69 [some (.ref 55), some (.int (nI h)), some (.int y), some (.int (bM q)), some (.int (mC q)), some (.int (nI c)), x6] [] S M2 := by
      intro M2 x6 hM2
      cases q with
      | none =>
        refine P_aload0 (pc' := 70) dX9_bestRent_69 rfl ?_
        refine P_iload1 (pc' := 71) dX9_bestRent_70 rfl ?_
        refine P_callV1 (pc' := 74) dX9_bestRent_71 rfl lk_X9_143 (l_55 hsh) (t_55 hsh) (c_X9_goesOn (d := 6) (n := n) hsh (hM2.rt (if_neg (by decide)) hr) hrd (by rw [hM2.1]; exact hw2) (by omega) (by omega)) (by omega) (Nat.le_of_ble_eq_true rfl) (fun r S3 I3 hq => ?_)
        obtain ⟨rfl, rfl, hP⟩ := hq
        rw [hM2.1] at hP
        have hM3 := hM2.ps hP
        have hz3 := hM3.z (aHrs_wa hw2)
        refine P_aload0 (pc' := 75) dX9_bestRent_74 rfl ?_
        refine P_getr (pc' := 78) dX9_bestRent_75 rfl fl_X9_9 rfl (l_55 hsh) (t_55 hsh) (q_55_0 hsh) ?_
        refine P_bipush (pc' := 80) dX9_bestRent_78 rfl (v := 6) rfl ?_
        refine P_iald (pc' := 81) dX9_bestRent_80 rfl (l_56 hsh) (t_56 hsh) (j := 6) rfl (by decide) (by decide) ?_
        refine P_as (y := aHrs (alX tn tx) n h (aFl (aR I) (nI c)) 6) (by rw [aR_rd I3 (by decide), hM3.1]) ?_
        refine P_istore6 (pc' := 83) dX9_bestRent_81 rfl (by decide) rfl ?_
        refine P_aload0 (pc' := 84) dX9_bestRent_83 rfl ?_
        refine P_callV0 (pc' := 87) dX9_bestRent_84 rfl lk_X9_167 (l_55 hsh) (t_55 hsh) (c_X9_isOwing (d := 2) hsh hz3 (by omega) (by omega)) (by omega) (Nat.le_of_ble_eq_true rfl) (fun r S' I' hq => ?_)
        obtain ⟨rfl, rfl, rfl⟩ := hq
        rw [hM3.1]
        refine P_if_ne (tgt := 108) (pc' := 90) dX9_bestRent_87 rfl rfl (fun h87 => ?_) (fun h87 => ?_)
        · refine P_aload0 (pc' := 109) dX9_bestRent_108 rfl ?_
          refine P_callV0 (pc' := 112) dX9_bestRent_109 rfl lk_X9_159 (l_55 hsh) (t_55 hsh) (c_X9_putsBack (d := 1) hsh) (by omega) (Nat.le_of_ble_eq_true rfl) (fun r S' I' hq => ?_)
          obtain ⟨rfl, rfl, rfl⟩ := hq
          refine P_iinc5 (pc' := 115) dX9_bestRent_112 rfl (nI_1 c) (by decide) rfl ?_
          refine P_goto (tgt := 34) dX9_bestRent_115 rfl ?_
          first
            | (rw [selS_n (hfn h87)] at hR; exact ih (c + 1) _ none _ (by omega) hM3.back hb2 hR)
            | (rw [selS_0 (hfs h87)] at hR; exact ih (c + 1) _ (some (c, aHrs (alX tn tx) n h (aFl (aR I) (nI c)) 6)) _ (by omega) hM3.back (fun b m z => by cases z; omega) hR)
        · refine P_iload3 (pc' := 91) dX9_bestRent_90 rfl ?_
          refine P_if_lt (tgt := 101) (pc' := 94) dX9_bestRent_91 rfl rfl (fun h91 => ?_) (fun h91 => ?_)
          · refine P_iload5 (pc' := 103) dX9_bestRent_101 rfl ?_
            refine P_istore3 (pc' := 104) dX9_bestRent_103 rfl (by decide) rfl ?_
            refine P_iload6 (pc' := 106) dX9_bestRent_104 rfl ?_
            refine P_istore4 (pc' := 108) dX9_bestRent_106 rfl (by decide) rfl ?_
            refine P_aload0 (pc' := 109) dX9_bestRent_108 rfl ?_
            refine P_callV0 (pc' := 112) dX9_bestRent_109 rfl lk_X9_159 (l_55 hsh) (t_55 hsh) (c_X9_putsBack (d := 1) hsh) (by omega) (Nat.le_of_ble_eq_true rfl) (fun r S' I' hq => ?_)
            obtain ⟨rfl, rfl, rfl⟩ := hq
            refine P_iinc5 (pc' := 115) dX9_bestRent_112 rfl (nI_1 c) (by decide) rfl ?_
            refine P_goto (tgt := 34) dX9_bestRent_115 rfl ?_
            first
              | (rw [selS_n (hfn h87)] at hR; exact ih (c + 1) _ none _ (by omega) hM3.back hb2 hR)
              | (rw [selS_0 (hfs h87)] at hR; exact ih (c + 1) _ (some (c, aHrs (alX tn tx) n h (aFl (aR I) (nI c)) 6)) _ (by omega) hM3.back (fun b m z => by cases z; omega) hR)
          · exact absurd (by decide) h91
      | some z =>
        obtain ⟨b', m⟩ := z
        refine P_aload0 (pc' := 70) dX9_bestRent_69 rfl ?_
        refine P_iload1 (pc' := 71) dX9_bestRent_70 rfl ?_
        refine P_callV1 (pc' := 74) dX9_bestRent_71 rfl lk_X9_143 (l_55 hsh) (t_55 hsh) (c_X9_goesOn (d := 6) (n := n) hsh (hM2.rt (if_neg (by decide)) hr) hrd (by rw [hM2.1]; exact hw2) (by omega) (by omega)) (by omega) (Nat.le_of_ble_eq_true rfl) (fun r S3 I3 hq => ?_)
        obtain ⟨rfl, rfl, hP⟩ := hq
        rw [hM2.1] at hP
        have hM3 := hM2.ps hP
        have hz3 := hM3.z (aHrs_wa hw2)
        refine P_aload0 (pc' := 75) dX9_bestRent_74 rfl ?_
        refine P_getr (pc' := 78) dX9_bestRent_75 rfl fl_X9_9 rfl (l_55 hsh) (t_55 hsh) (q_55_0 hsh) ?_
        refine P_bipush (pc' := 80) dX9_bestRent_78 rfl (v := 6) rfl ?_
        refine P_iald (pc' := 81) dX9_bestRent_80 rfl (l_56 hsh) (t_56 hsh) (j := 6) rfl (by decide) (by decide) ?_
        refine P_as (y := aHrs (alX tn tx) n h (aFl (aR I) (nI c)) 6) (by rw [aR_rd I3 (by decide), hM3.1]) ?_
        refine P_istore6 (pc' := 83) dX9_bestRent_81 rfl (by decide) rfl ?_
        refine P_aload0 (pc' := 84) dX9_bestRent_83 rfl ?_
        refine P_callV0 (pc' := 87) dX9_bestRent_84 rfl lk_X9_167 (l_55 hsh) (t_55 hsh) (c_X9_isOwing (d := 2) hsh hz3 (by omega) (by omega)) (by omega) (Nat.le_of_ble_eq_true rfl) (fun r S' I' hq => ?_)
        obtain ⟨rfl, rfl, rfl⟩ := hq
        rw [hM3.1]
        refine P_if_ne (tgt := 108) (pc' := 90) dX9_bestRent_87 rfl rfl (fun h87 => ?_) (fun h87 => ?_)
        · refine P_aload0 (pc' := 109) dX9_bestRent_108 rfl ?_
          refine P_callV0 (pc' := 112) dX9_bestRent_109 rfl lk_X9_159 (l_55 hsh) (t_55 hsh) (c_X9_putsBack (d := 1) hsh) (by omega) (Nat.le_of_ble_eq_true rfl) (fun r S' I' hq => ?_)
          obtain ⟨rfl, rfl, rfl⟩ := hq
          refine P_iinc5 (pc' := 115) dX9_bestRent_112 rfl (nI_1 c) (by decide) rfl ?_
          refine P_goto (tgt := 34) dX9_bestRent_115 rfl ?_
          first
            | (rw [selS_n (hfn h87)] at hR; exact ih (c + 1) _ (some (b', m)) _ (by omega) hM3.back hb2 hR)
            | (rw [selS_k (m := m) (hfs h87) (Int32.not_lt.mpr h98)] at hR; exact ih (c + 1) _ (some (b', m)) _ (by omega) hM3.back hb2 hR)
            | (rw [selS_t (m := m) (hfs h87) (Int32.not_le.mp h98)] at hR; exact ih (c + 1) _ (some (c, aHrs (alX tn tx) n h (aFl (aR I) (nI c)) 6)) _ (by omega) hM3.back (fun b m z => by cases z; omega) hR)
        · refine P_iload3 (pc' := 91) dX9_bestRent_90 rfl ?_
          refine P_if_lt (tgt := 101) (pc' := 94) dX9_bestRent_91 rfl rfl (fun h91 => ?_) (fun h91 => ?_)
          · exact absurd h91 (nI_pos (by have := hb2 _ _ rfl; omega))
          · refine P_iload6 (pc' := 96) dX9_bestRent_94 rfl ?_
            refine P_iload4 (pc' := 98) dX9_bestRent_96 rfl ?_
            refine P_icmp_le (tgt := 108) (pc' := 101) dX9_bestRent_98 rfl rfl (fun h98 => ?_) (fun h98 => ?_)
            · refine P_aload0 (pc' := 109) dX9_bestRent_108 rfl ?_
              refine P_callV0 (pc' := 112) dX9_bestRent_109 rfl lk_X9_159 (l_55 hsh) (t_55 hsh) (c_X9_putsBack (d := 1) hsh) (by omega) (Nat.le_of_ble_eq_true rfl) (fun r S' I' hq => ?_)
              obtain ⟨rfl, rfl, rfl⟩ := hq
              refine P_iinc5 (pc' := 115) dX9_bestRent_112 rfl (nI_1 c) (by decide) rfl ?_
              refine P_goto (tgt := 34) dX9_bestRent_115 rfl ?_
              first
                | (rw [selS_n (hfn h87)] at hR; exact ih (c + 1) _ (some (b', m)) _ (by omega) hM3.back hb2 hR)
                | (rw [selS_k (m := m) (hfs h87) (Int32.not_lt.mpr h98)] at hR; exact ih (c + 1) _ (some (b', m)) _ (by omega) hM3.back hb2 hR)
                | (rw [selS_t (m := m) (hfs h87) (Int32.not_le.mp h98)] at hR; exact ih (c + 1) _ (some (c, aHrs (alX tn tx) n h (aFl (aR I) (nI c)) 6)) _ (by omega) hM3.back (fun b m z => by cases z; omega) hR)
            · refine P_iload5 (pc' := 103) dX9_bestRent_101 rfl ?_
              refine P_istore3 (pc' := 104) dX9_bestRent_103 rfl (by decide) rfl ?_
              refine P_iload6 (pc' := 106) dX9_bestRent_104 rfl ?_
              refine P_istore4 (pc' := 108) dX9_bestRent_106 rfl (by decide) rfl ?_
              refine P_aload0 (pc' := 109) dX9_bestRent_108 rfl ?_
              refine P_callV0 (pc' := 112) dX9_bestRent_109 rfl lk_X9_159 (l_55 hsh) (t_55 hsh) (c_X9_putsBack (d := 1) hsh) (by omega) (Nat.le_of_ble_eq_true rfl) (fun r S' I' hq => ?_)
              obtain ⟨rfl, rfl, rfl⟩ := hq
              refine P_iinc5 (pc' := 115) dX9_bestRent_112 rfl (nI_1 c) (by decide) rfl ?_
              refine P_goto (tgt := 34) dX9_bestRent_115 rfl ?_
              first
                | (rw [selS_n (hfn h87)] at hR; exact ih (c + 1) _ (some (b', m)) _ (by omega) hM3.back hb2 hR)
                | (rw [selS_k (m := m) (hfs h87) (Int32.not_lt.mpr h98)] at hR; exact ih (c + 1) _ (some (b', m)) _ (by omega) hM3.back hb2 hR)
                | (rw [selS_t (m := m) (hfs h87) (Int32.not_le.mp h98)] at hR; exact ih (c + 1) _ (some (c, aHrs (alX tn tx) n h (aFl (aR I) (nI c)) 6)) _ (by omega) hM3.back (fun b m z => by cases z; omega) hR)
    refine P_iload5 (pc' := 36) dX9_bestRent_34 rfl ?_
    refine P_bipush (pc' := 38) dX9_bestRent_36 rfl (v := 10) rfl ?_
    refine P_icmp_ge (tgt := 118) (pc' := 41) dX9_bestRent_38 rfl rfl (fun h38 => ?_) (fun h38 => ?_)
    · exact absurd h38 (nI_ge (a := c) (b := 10) (by omega) (by decide))
    · refine P_iconst (pc' := 42) dX9_bestRent_41 rfl (v := 0) rfl ?_
      refine P_istore6 (pc' := 44) dX9_bestRent_42 rfl (by decide) rfl ?_
      exact lp_X9_fill (I := I) (A := aR I) hsh key 8 0 M (by omega) (by rw [aFc_0]; exact hM)
theorem r_bestRent {G : GX} {S : Shp} {I T : Mem} {d tn bn : Nat} {tx : Nat → Tx} (hT : KT T tn bn tx) (hsh : SHP S) (hI : RI T I) (v y : Int32) (hd : 12 ≤ d) : PM G yX9_bestRent cX9_bestRent 7 (some .int) d 0 0 [.ref 55, .int v, .int y] S I (RO S I T (vRen (alX tn tx) (aR T) v y)) := by
  obtain ⟨n, hn, hw, eR, hz, hr, hrd⟩ := hT.n hI
  have ev : vRen (alX tn tx) (aR T) v y = if wi v 1 60 = 0 then -1000000001 else if wi y 0 1 = 0 then -1000000001 else resV y (sel (fRen (alX tn tx) (aR T) n v.toNatClampNeg) 10 0 none) := by unfold vRen; rw [hw.1, nI_clamp (by omega)]
  rw [ev]
  refine PM.of (ls := [some (.ref 55), some (.int v), some (.int y), none, none, none, none]) (by decide) rfl (Nat.le_of_ble_eq_true rfl) rfl ?_
  show PW G RX9 "bestRent" _ _ _ _ _ _ _ _ _ _ _ _
  refine P_iload1 (pc' := 1) dX9_bestRent_0 rfl ?_
  refine P_iconst (pc' := 2) dX9_bestRent_1 rfl (v := 1) rfl ?_
  refine P_bipush (pc' := 4) dX9_bestRent_2 rfl (v := 60) rfl ?_
  refine P_callS3 (pc' := 7) dX9_bestRent_4 rfl lk_X9_75 (c_X9_in (d := 0) v 1 60) (by omega) (Nat.le_of_ble_eq_true rfl) (fun r S' I' hq => ?_)
  obtain ⟨rfl, rfl, rfl⟩ := hq
  refine P_if_eq (tgt := 19) (pc' := 10) dX9_bestRent_7 rfl rfl (fun h7 => ?_) (fun h7 => ?_)
  · refine P_ldc (pc' := 21) dX9_bestRent_19 rfl co_X9_83 ?_
    refine P_iret dX9_bestRent_21 ?_
    first
      | (rw [if_pos h7]; exact RO.id hI)
      | (rw [if_neg h7, if_pos h16]; exact RO.id hI)
  · refine P_iload2 (pc' := 11) dX9_bestRent_10 rfl ?_
    refine P_iconst (pc' := 12) dX9_bestRent_11 rfl (v := 0) rfl ?_
    refine P_iconst (pc' := 13) dX9_bestRent_12 rfl (v := 1) rfl ?_
    refine P_callS3 (pc' := 16) dX9_bestRent_13 rfl lk_X9_75 (c_X9_in (d := 0) y 0 1) (by omega) (Nat.le_of_ble_eq_true rfl) (fun r S' I' hq => ?_)
    obtain ⟨rfl, rfl, rfl⟩ := hq
    refine P_if_ne (tgt := 22) (pc' := 19) dX9_bestRent_16 rfl rfl (fun h16 => ?_) (fun h16 => ?_)
    · refine P_aload0 (pc' := 23) dX9_bestRent_22 rfl ?_
      refine P_callV0 (pc' := 26) dX9_bestRent_23 rfl lk_X9_153 (l_55 hsh) (t_55 hsh) (c_X9_thinks (d := 1) hsh) (by omega) (Nat.le_of_ble_eq_true rfl) (fun r S' I' hq => ?_)
      obtain ⟨rfl, rfl, rfl⟩ := hq
      refine P_iconst (pc' := 27) dX9_bestRent_26 rfl (v := (-1)) rfl ?_
      refine P_istore3 (pc' := 28) dX9_bestRent_27 rfl (by decide) rfl ?_
      refine P_iconst (pc' := 29) dX9_bestRent_28 rfl (v := 0) rfl ?_
      refine P_istore4 (pc' := 31) dX9_bestRent_29 rfl (by decide) rfl ?_
      refine P_iconst (pc' := 32) dX9_bestRent_31 rfl (v := 0) rfl ?_
      refine P_istore5 (pc' := 34) dX9_bestRent_32 rfl (by decide) rfl ?_
      rw [if_neg h7, if_neg h16]
      obtain ⟨i, i1, i2, rfl⟩ := wi_b1 (m := 60) (by decide) h7
      rw [nI_clamp (by omega), ← eR]
      exact lp_X9_bestRent (bn := bn) hsh hI hr hrd (by rw [eR]; exact hw) hn (by omega) hd 10 0 _ none _ (by omega) (TK.start I) (fun _ _ z => by cases z) rfl
    · refine P_ldc (pc' := 21) dX9_bestRent_19 rfl co_X9_83 ?_
      refine P_iret dX9_bestRent_21 ?_
      first
        | (rw [if_pos h7]; exact RO.id hI)
        | (rw [if_neg h7, if_pos h16]; exact RO.id hI)
/-! whose corner purses are, in the reference -/
theorem dvF_b {al : Int32 → Int32 → Int32 → Int32} {n b : Nat} {f : Nat → Int32} : ∀ (k j : Nat) (A : Nat → Int32), dvF al n b f k j A ≤ k * 2 ^ 33 := by
  intro k
  induction k with
  | zero => intro j A; exact Nat.zero_le _
  | succ k ih =>
    intro j A
    rw [dvF_s]
    have h1 := ih (j + 1) (aHour al n A)
    have h2 : dfV f b j A ≤ 2 ^ 33 := by
      unfold dfV
      split
      · omega
      · have a1 := Int32.le_toInt (A (19 + 5 * b))
        have a2 := Int32.toInt_lt (A (19 + 5 * b))
        have a3 := Int32.le_toInt (f j)
        have a4 := Int32.toInt_lt (f j)
        omega
    omega
theorem l_sub (x y : Int32) : (x.toInt64 - y.toInt64).toInt = x.toInt - y.toInt := by
  have a1 := Int32.le_toInt x
  have a2 := Int32.toInt_lt x
  have a3 := Int32.le_toInt y
  have a4 := Int32.toInt_lt y
  rw [Int64.toInt_sub, Int32.toInt_toInt64, Int32.toInt_toInt64]
  unfold Int.bmod
  dsimp only
  omega
theorem l_of {x : Int64} {n : Nat} (hn : n < 2 ^ 63) (h : x.toInt = (n : Int)) : x = lN n := Int64.toInt_inj.mp (by rw [h, pk_lT hn])
theorem l_abs (x y : Int32) : (0 ≤ x.toInt64 - y.toInt64 → x.toInt64 - y.toInt64 = lN (y.toInt - x.toInt).natAbs) ∧ (¬ 0 ≤ x.toInt64 - y.toInt64 → -(x.toInt64 - y.toInt64) = lN (y.toInt - x.toInt).natAbs) := by
  have a1 := Int32.le_toInt x
  have a2 := Int32.toInt_lt x
  have a3 := Int32.le_toInt y
  have a4 := Int32.toInt_lt y
  have e := l_sub x y
  have e0 : (0 : Int64).toInt = 0 := by decide
  constructor
  · intro h
    have h := Int64.le_iff_toInt_le.mp h
    rw [e0, e] at h
    exact l_of (by omega) (by rw [e]; omega)
  · intro h
    have h : ¬ (0 : Int64).toInt ≤ (x.toInt64 - y.toInt64).toInt := fun z => h (Int64.le_iff_toInt_le.mpr z)
    rw [e0, e] at h
    refine l_of (by omega) ?_
    rw [Int64.toInt_neg, e]
    unfold Int.bmod
    dsimp only
    omega
theorem lp_X9_offBy {G : GX} {S : Shp} {I : Mem} {d tn n b i m : Nat} {tx : Nat → Tx} {co : Int32} {R : Nat} (hsh : SHP S) (hr : RT I tn tx) (hrd : RTd tn tx) (hi : i < 4) (hm : m ≤ 24) (em : I 69 i = nI m) (hn : n ≤ 8) (hb : b < n) (hd : 8 ≤ d) : ∀ (k j acc : Nat) (A : Nat → Int32) (M : Mem) (x7 x8 x9 : Option Value), j + k = m → lc1 x7 = true → TK I A M → WA A n → A 7 = aR I 7 → acc + dvF (alX tn tx) n b (fun j => I 70 (24 * i + j)) k j A = R → PW G RX9 "offBy" cX9_offBy 10 (some .long) d 0 0 (fun r S' I' => r = some (.long (lN R)) ∧ S = S' ∧ TK I (aR I) I') 13 [some (.ref 55), some (.int (nI i)), some (.int (nI b)), some (.int co), some (.long (lN acc)), none, some (.int (nI j)), x7, x8, x9] [] S M := by
  intro k
  induction k with
  | zero =>
    intro j acc A M x7 x8 x9 hj hx7 hM hw h7 hR
    have hR : acc = R := hR
    subst hR
    have e9 : M 69 i = nI m := by rw [hM.2.2.1 69 (by decide) (by decide) (by decide) (by decide)]; exact em
    refine P_iload6 (pc' := 15) dX9_offBy_13 rfl ?_
    refine P_aload0 (pc' := 16) dX9_offBy_15 rfl ?_
    refine P_getr (pc' := 19) dX9_offBy_16 rfl fl_X9_51 rfl (l_55 hsh) (t_55 hsh) (q_55_24 hsh) ?_
    refine P_iload1 (pc' := 20) dX9_offBy_19 rfl ?_
    refine P_iald (pc' := 21) dX9_offBy_20 rfl (l_69 hsh) (t_69 hsh) (j := i) rfl (by omega) (by decide) ?_
    refine P_as e9 ?_
    refine P_icmp_ge (tgt := 92) (pc' := 24) dX9_offBy_21 rfl rfl (fun h21 => ?_) (fun h21 => ?_)
    · refine P_aload0 (pc' := 93) dX9_offBy_92 rfl ?_
      refine P_callV0 (pc' := 96) dX9_offBy_93 rfl lk_X9_159 (l_55 hsh) (t_55 hsh) (c_X9_putsBack (d := 1) hsh) (by omega) (Nat.le_of_ble_eq_true rfl) (fun r S' I' hq => ?_)
      obtain ⟨rfl, rfl, rfl⟩ := hq
      refine P_lload4 (pc' := 98) dX9_offBy_96 rfl ?_
      refine P_lret dX9_offBy_98 ?_
      exact ⟨rfl, rfl, hM.back⟩
    · exact absurd (nI_le (by omega) (by omega)) h21
  | succ k ih =>
    intro j acc A M x7 x8 x9 hj hx7 hM hw h7 hR
    rw [dvF_s] at hR
    have e9 : M 69 i = nI m := by rw [hM.2.2.1 69 (by decide) (by decide) (by decide) (by decide)]; exact em
    have ec : (24 : Int32) * nI i = nI (24 * i) := pk_mul 24 i
    have e70 : M 70 (24 * i + j) = I 70 (24 * i + j) := by rw [hM.2.2.1 70 (by decide) (by decide) (by decide) (by decide)]
    have ep : M 56 (16 + 5 * b + 3) = A (19 + 5 * b) := by rw [aR_rd M (by omega), hM.1, show 16 + 5 * b + 3 = 19 + 5 * b by omega]
    obtain ⟨la1, la2⟩ := l_abs (I 70 (24 * i + j)) (A (19 + 5 * b))
    have nxt : ∀ acc' : Nat, acc' = acc + dfV (fun j => I 70 (24 * i + j)) b j A → ∀ x8 x9, PW G RX9 "offBy" cX9_offBy 10 (some .long) d 0 0 (fun r S' I' => r = some (.long (lN R)) ∧ S = S' ∧ TK I (aR I) I') 80 [some (.ref 55), some (.int (nI i)), some (.int (nI b)), some (.int co), some (.long (lN acc)), none, some (.int (nI j)), some (.int (I 70 (24 * i + j))), x8, x9] [.long (lN acc')] S M := by
      intro acc' e1 x8 x9
      refine P_lstore4 (pc' := 82) dX9_offBy_80 rfl (by decide) rfl ?_
      refine P_aload0 (pc' := 83) dX9_offBy_82 rfl ?_
      refine P_callV0 (pc' := 86) dX9_offBy_83 rfl lk_X9_137 (l_55 hsh) (t_55 hsh) (c_X9_hour (d := 6) (n := n) hsh (hM.rt h7 hr) hrd (by rw [hM.1]; exact hw) (by omega)) (by omega) (Nat.le_of_ble_eq_true rfl) (fun r S3 I3 hq => ?_)
      obtain ⟨rfl, rfl, hP⟩ := hq
      rw [hM.1] at hP
      refine P_iinc6 (pc' := 89) dX9_offBy_86 rfl (nI_1 j) (by decide) rfl ?_
      refine P_goto (tgt := 13) dX9_offBy_89 rfl ?_
      exact ih (j + 1) acc' _ I3 _ _ _ (by omega) rfl (hM.ps hP) (aHour_wa hw) (by rw [aHour_7]; exact h7) (by rw [e1, ← hR]; omega)
    by_cases q : I 70 (24 * i + j) = -1000000005
    · skip
      refine P_iload6 (pc' := 15) dX9_offBy_13 rfl ?_
      refine P_aload0 (pc' := 16) dX9_offBy_15 rfl ?_
      refine P_getr (pc' := 19) dX9_offBy_16 rfl fl_X9_51 rfl (l_55 hsh) (t_55 hsh) (q_55_24 hsh) ?_
      refine P_iload1 (pc' := 20) dX9_offBy_19 rfl ?_
      refine P_iald (pc' := 21) dX9_offBy_20 rfl (l_69 hsh) (t_69 hsh) (j := i) rfl (by omega) (by decide) ?_
      refine P_as e9 ?_
      refine P_icmp_ge (tgt := 92) (pc' := 24) dX9_offBy_21 rfl rfl (fun h21 => ?_) (fun h21 => ?_)
      · exact absurd h21 (nI_ge (by omega) (by omega))
      · refine P_aload0 (pc' := 25) dX9_offBy_24 rfl ?_
        refine P_getr (pc' := 28) dX9_offBy_25 rfl fl_X9_54 rfl (l_55 hsh) (t_55 hsh) (q_55_25 hsh) ?_
        refine P_bipush (pc' := 30) dX9_offBy_28 rfl (v := 24) rfl ?_
        refine P_iload1 (pc' := 31) dX9_offBy_30 rfl ?_
        refine P_imul (pc' := 32) dX9_offBy_31 rfl ?_
        refine P_as ec ?_
        refine P_iload6 (pc' := 34) dX9_offBy_32 rfl ?_
        refine P_iadd (pc' := 35) dX9_offBy_34 rfl ?_
        refine P_as (nI_add _ _) ?_
        refine P_iald (pc' := 36) dX9_offBy_35 rfl (l_70 hsh) (t_70 hsh) (j := 24 * i + j) rfl (by omega) (by decide) ?_
        refine P_as e70 ?_
        refine P_istore7 (pc' := 38) dX9_offBy_36 rfl (by decide) rfl ?_
        refine P_iload7 (pc' := 40) dX9_offBy_38 rfl ?_
        refine P_i2l (pc' := 41) dX9_offBy_40 rfl ?_
        refine P_aload0 (pc' := 42) dX9_offBy_41 rfl ?_
        refine P_iload2 (pc' := 43) dX9_offBy_42 rfl ?_
        refine P_iconst (pc' := 44) dX9_offBy_43 rfl (v := 3) rfl ?_
        refine P_callV2 (pc' := 47) dX9_offBy_44 rfl lk_X9_89 (l_55 hsh) (t_55 hsh) (c_X9_of (d := 0) (k := 3) hsh (by omega) (by omega)) (by omega) (Nat.le_of_ble_eq_true rfl) (fun r S' I' hq => ?_)
        obtain ⟨rfl, rfl, rfl⟩ := hq
        refine P_as ep ?_
        refine P_i2l (pc' := 48) dX9_offBy_47 rfl ?_
        refine P_lsub (pc' := 49) dX9_offBy_48 rfl ?_
        refine P_lstore8 (pc' := 51) dX9_offBy_49 rfl (by decide) rfl ?_
        refine P_lload4 (pc' := 53) dX9_offBy_51 rfl ?_
        refine P_iload7 (pc' := 55) dX9_offBy_53 rfl ?_
        refine P_ldc (pc' := 57) dX9_offBy_55 rfl co_X9_166 ?_
        refine P_icmp_ne (tgt := 64) (pc' := 60) dX9_offBy_57 rfl rfl (fun h57 => ?_) (fun h57 => ?_)
        · exact absurd q h57
        · refine P_lconst (pc' := 61) dX9_offBy_60 rfl (v := 0) rfl ?_
          refine P_goto (tgt := 79) dX9_offBy_61 rfl ?_
          refine P_ladd (pc' := 80) dX9_offBy_79 rfl ?_
          refine P_asL (y := lN acc) (lN_add acc 0) ?_
          exact nxt acc (by rw [show dfV (fun j => I 70 (24 * i + j)) b j A = 0 from if_pos q]; rfl) _ _
    · have ed : dfV (fun j => I 70 (24 * i + j)) b j A = ((A (19 + 5 * b)).toInt - (I 70 (24 * i + j)).toInt).natAbs := if_neg q
      refine P_iload6 (pc' := 15) dX9_offBy_13 rfl ?_
      refine P_aload0 (pc' := 16) dX9_offBy_15 rfl ?_
      refine P_getr (pc' := 19) dX9_offBy_16 rfl fl_X9_51 rfl (l_55 hsh) (t_55 hsh) (q_55_24 hsh) ?_
      refine P_iload1 (pc' := 20) dX9_offBy_19 rfl ?_
      refine P_iald (pc' := 21) dX9_offBy_20 rfl (l_69 hsh) (t_69 hsh) (j := i) rfl (by omega) (by decide) ?_
      refine P_as e9 ?_
      refine P_icmp_ge (tgt := 92) (pc' := 24) dX9_offBy_21 rfl rfl (fun h21 => ?_) (fun h21 => ?_)
      · exact absurd h21 (nI_ge (by omega) (by omega))
      · refine P_aload0 (pc' := 25) dX9_offBy_24 rfl ?_
        refine P_getr (pc' := 28) dX9_offBy_25 rfl fl_X9_54 rfl (l_55 hsh) (t_55 hsh) (q_55_25 hsh) ?_
        refine P_bipush (pc' := 30) dX9_offBy_28 rfl (v := 24) rfl ?_
        refine P_iload1 (pc' := 31) dX9_offBy_30 rfl ?_
        refine P_imul (pc' := 32) dX9_offBy_31 rfl ?_
        refine P_as ec ?_
        refine P_iload6 (pc' := 34) dX9_offBy_32 rfl ?_
        refine P_iadd (pc' := 35) dX9_offBy_34 rfl ?_
        refine P_as (nI_add _ _) ?_
        refine P_iald (pc' := 36) dX9_offBy_35 rfl (l_70 hsh) (t_70 hsh) (j := 24 * i + j) rfl (by omega) (by decide) ?_
        refine P_as e70 ?_
        refine P_istore7 (pc' := 38) dX9_offBy_36 rfl (by decide) rfl ?_
        refine P_iload7 (pc' := 40) dX9_offBy_38 rfl ?_
        refine P_i2l (pc' := 41) dX9_offBy_40 rfl ?_
        refine P_aload0 (pc' := 42) dX9_offBy_41 rfl ?_
        refine P_iload2 (pc' := 43) dX9_offBy_42 rfl ?_
        refine P_iconst (pc' := 44) dX9_offBy_43 rfl (v := 3) rfl ?_
        refine P_callV2 (pc' := 47) dX9_offBy_44 rfl lk_X9_89 (l_55 hsh) (t_55 hsh) (c_X9_of (d := 0) (k := 3) hsh (by omega) (by omega)) (by omega) (Nat.le_of_ble_eq_true rfl) (fun r S' I' hq => ?_)
        obtain ⟨rfl, rfl, rfl⟩ := hq
        refine P_as ep ?_
        refine P_i2l (pc' := 48) dX9_offBy_47 rfl ?_
        refine P_lsub (pc' := 49) dX9_offBy_48 rfl ?_
        refine P_lstore8 (pc' := 51) dX9_offBy_49 rfl (by decide) rfl ?_
        refine P_lload4 (pc' := 53) dX9_offBy_51 rfl ?_
        refine P_iload7 (pc' := 55) dX9_offBy_53 rfl ?_
        refine P_ldc (pc' := 57) dX9_offBy_55 rfl co_X9_166 ?_
        refine P_icmp_ne (tgt := 64) (pc' := 60) dX9_offBy_57 rfl rfl (fun h57 => ?_) (fun h57 => ?_)
        · refine P_lload8 (pc' := 66) dX9_offBy_64 rfl ?_
          refine P_lconst (pc' := 67) dX9_offBy_66 rfl (v := 0) rfl ?_
          refine P_lcmp (pc' := 68) dX9_offBy_67 rfl ?_
          refine P_if_ge (tgt := 77) (pc' := 71) dX9_offBy_68 rfl rfl (fun h68 => ?_) (fun h68 => ?_)
          · refine P_lload8 (pc' := 79) dX9_offBy_77 rfl ?_
            first
              | (refine P_asL (la1 ((lg_cmp_ge _ _).mp h68)) ?_
                 refine P_ladd (pc' := 80) dX9_offBy_79 rfl ?_
                 refine P_asL (lN_add _ _) ?_
                 exact nxt _ (by rw [ed]) _ _)
              | (refine P_asL (la2 (fun z => h68 ((lg_cmp_ge _ _).mpr z))) ?_
                 refine P_ladd (pc' := 80) dX9_offBy_79 rfl ?_
                 refine P_asL (lN_add _ _) ?_
                 exact nxt _ (by rw [ed]) _ _)
          · refine P_lload8 (pc' := 73) dX9_offBy_71 rfl ?_
            refine P_lneg (pc' := 74) dX9_offBy_73 rfl ?_
            refine P_goto (tgt := 79) dX9_offBy_74 rfl ?_
            first
              | (refine P_asL (la1 ((lg_cmp_ge _ _).mp h68)) ?_
                 refine P_ladd (pc' := 80) dX9_offBy_79 rfl ?_
                 refine P_asL (lN_add _ _) ?_
                 exact nxt _ (by rw [ed]) _ _)
              | (refine P_asL (la2 (fun z => h68 ((lg_cmp_ge _ _).mpr z))) ?_
                 refine P_ladd (pc' := 80) dX9_offBy_79 rfl ?_
                 refine P_asL (lN_add _ _) ?_
                 exact nxt _ (by rw [ed]) _ _)
        · exact absurd h57 q
theorem c_X9_offBy {G : GX} {S : Shp} {I M : Mem} {d tn n b i m c : Nat} {tx : Nat → Tx} (hsh : SHP S) (hr : RT I tn tx) (hrd : RTd tn tx) (hi : i < 4) (hm : m ≤ 24) (em : I 69 i = nI m) (hn : n ≤ 8) (hb : b < n) (hc : c ≤ 8) (hw : WA (aR I) n) (hM : TK I (aR I) M) (hd : 8 ≤ d) : PM G yX9_offBy cX9_offBy 10 (some .long) d 0 0 [.ref 55, .int (nI i), .int (nI b), .int (nI c)] S M (fun r S' I' => r = some (.long (lN (dvF (alX tn tx) n b (fun j => I 70 (24 * i + j)) m 0 (upd (aR I) (17 + 5 * b) (nI c))))) ∧ S = S' ∧ TK I (aR I) I') := by
  refine PM.of (ls := [some (.ref 55), some (.int (nI i)), some (.int (nI b)), some (.int (nI c)), none, none, none, none, none, none]) (by decide) rfl (Nat.le_of_ble_eq_true rfl) rfl ?_
  show PW G RX9 "offBy" _ _ _ _ _ _ _ _ _ _ _ _
  refine P_aload0 (pc' := 1) dX9_offBy_0 rfl ?_
  refine P_iload2 (pc' := 2) dX9_offBy_1 rfl ?_
  refine P_iconst (pc' := 3) dX9_offBy_2 rfl (v := 1) rfl ?_
  refine P_iload3 (pc' := 4) dX9_offBy_3 rfl ?_
  refine P_callV3 (pc' := 7) dX9_offBy_4 rfl lk_X9_79 (l_55 hsh) (t_55 hsh) (c_X9_put (d := 0) (k := 1) hsh (by omega) (by decide)) (by omega) (Nat.le_of_ble_eq_true rfl) (fun r S' I' hq => ?_)
  obtain ⟨rfl, rfl, rfl⟩ := hq
  have hM2 := hM.ps (PsR.put (I := M) (i := 16 + 5 * b + 1) (v := nI c) (by omega))
  rw [hM.1, show 16 + 5 * b + 1 = 17 + 5 * b by omega] at hM2
  rw [show 16 + 5 * b + 1 = 17 + 5 * b by omega]
  refine P_lconst (pc' := 8) dX9_offBy_7 rfl (v := 0) rfl ?_
  refine P_lstore4 (pc' := 10) dX9_offBy_8 rfl (by decide) rfl ?_
  refine P_iconst (pc' := 11) dX9_offBy_10 rfl (v := 0) rfl ?_
  refine P_istore6 (pc' := 13) dX9_offBy_11 rfl (by decide) rfl ?_
  exact lp_X9_offBy hsh hr hrd hi hm em hn hb hd m 0 0 _ _ _ _ _ (by omega) rfl hM2 (hw.wc (by omega) hc) (upd_n (by omega)) (Nat.zero_add _)
theorem lp_X9_stood {G : GX} {S : Shp} {I T : Mem} {d tn n b i m : Nat} {tx : Nat → Tx} {y : Int32} {F : Nat → Nat} {R : Nat × Nat} (hsh : SHP S) (hI : RI T I) (hr : RT I tn tx) (hrd : RTd tn tx) (hw : WA (aR I) n) (hi : i < 4) (hm : m ≤ 24) (em : I 69 i = nI m) (hn : n ≤ 8) (hb : b < n) (hd : 12 ≤ d) (hF : ∀ c, dvF (alX tn tx) n b (fun j => I 70 (24 * i + j)) m 0 (upd (aR I) (17 + 5 * b) (nI c)) = F c) (hFb : ∀ c, F c < 2 ^ 40) : ∀ (k c : Nat) (M : Mem) (q : Nat × Nat) (x8 x9 : Option Value), c + k = 9 → TK I (aR I) M → q.2 < 2 ^ 40 → smS F k c q = R → PW G RX9 "stood" cX9_stood 10 (some .int) d 0 0 (RO S I T (if y = 0 then nI R.1 else nI R.2)) 58 [some (.ref 55), some (.int (nI i)), some (.int (nI b)), some (.int y), some (.int (nI q.1)), some (.long (lN q.2)), none, some (.int (nI c)), x8, x9] [] S M := by
  intro k
  induction k with
  | zero =>
    intro c M q x8 x9 hc hM hq hR
    have hc : c = 9 := by omega
    subst hc
    have hR : q = R := hR
    rw [← hR]
    refine P_iload7 (pc' := 60) dX9_stood_58 rfl ?_
    refine P_bipush (pc' := 62) dX9_stood_60 rfl (v := 8) rfl ?_
    refine P_icmp_gt (tgt := 115) (pc' := 65) dX9_stood_62 rfl rfl (fun h62 => ?_) (fun h62 => ?_)
    · refine P_iload3 (pc' := 116) dX9_stood_115 rfl ?_
      refine P_if_ne (tgt := 124) (pc' := 119) dX9_stood_116 rfl rfl (fun h116 => ?_) (fun h116 => ?_)
      · refine P_lload5 (pc' := 126) dX9_stood_124 rfl ?_
        refine P_l2i (pc' := 127) dX9_stood_126 rfl ?_
        refine P_iret dX9_stood_127 ?_
        first
          | (rw [if_pos h116]; exact hM.fin hI)
          | (rw [if_neg h116, lN_i]; exact hM.fin hI)
      · refine P_iload4 (pc' := 121) dX9_stood_119 rfl ?_
        refine P_goto (tgt := 127) dX9_stood_121 rfl ?_
        refine P_iret dX9_stood_127 ?_
        first
          | (rw [if_pos h116]; exact hM.fin hI)
          | (rw [if_neg h116, lN_i]; exact hM.fin hI)
    · exact absurd (show (8 : Int32) < nI 9 by decide) h62
  | succ k ih =>
    intro c M q x8 x9 hc hM hq hR
    rw [smS_s] at hR
    have lt : ∀ {a b : Nat}, a < 2 ^ 40 → b < 2 ^ 40 → (¬ (0 : Int32) ≤ lg_cmp (lN a) (lN b) ↔ a < b) := fun {a b} ha hb => by
      rw [lg_cmp_ge, pk_lLE (by omega) (by omega)]
      omega
    by_cases q1 : F c < q.2
    · rw [if_pos q1] at hR
      refine P_iload7 (pc' := 60) dX9_stood_58 rfl ?_
      refine P_bipush (pc' := 62) dX9_stood_60 rfl (v := 8) rfl ?_
      refine P_icmp_gt (tgt := 115) (pc' := 65) dX9_stood_62 rfl rfl (fun h62 => ?_) (fun h62 => ?_)
      · exact absurd h62 (Int32.not_lt.mpr (nI_le (a := c) (b := 8) (by omega) (by decide)))
      · refine P_aload0 (pc' := 66) dX9_stood_65 rfl ?_
        refine P_iload1 (pc' := 67) dX9_stood_66 rfl ?_
        refine P_iload2 (pc' := 68) dX9_stood_67 rfl ?_
        refine P_iload7 (pc' := 70) dX9_stood_68 rfl ?_
        refine P_callV3 (pc' := 73) dX9_stood_70 rfl lk_X9_175 (l_55 hsh) (t_55 hsh) (c_X9_offBy (d := 9) (n := n) hsh hr hrd hi hm em hn hb (by omega) hw hM (by omega)) (by omega) (Nat.le_of_ble_eq_true rfl) (fun r S3 I3 hq => ?_)
        obtain ⟨rfl, rfl, hM3⟩ := hq
        rw [hF c]
        refine P_lstore8 (pc' := 75) dX9_stood_73 rfl (by decide) rfl ?_
        refine P_lload8 (pc' := 77) dX9_stood_75 rfl ?_
        refine P_lload5 (pc' := 79) dX9_stood_77 rfl ?_
        refine P_lcmp (pc' := 80) dX9_stood_79 rfl ?_
        refine P_if_ge (tgt := 88) (pc' := 83) dX9_stood_80 rfl rfl (fun h80 => ?_) (fun h80 => ?_)
        · exact absurd h80 ((lt (hFb c) hq).mpr q1)
        · refine P_iload7 (pc' := 85) dX9_stood_83 rfl ?_
          refine P_goto (tgt := 90) dX9_stood_85 rfl ?_
          refine P_istore4 (pc' := 92) dX9_stood_90 rfl (by decide) rfl ?_
          refine P_lload8 (pc' := 94) dX9_stood_92 rfl ?_
          refine P_lload5 (pc' := 96) dX9_stood_94 rfl ?_
          refine P_lcmp (pc' := 97) dX9_stood_96 rfl ?_
          refine P_if_ge (tgt := 105) (pc' := 100) dX9_stood_97 rfl rfl (fun h97 => ?_) (fun h97 => ?_)
          · exact absurd h97 ((lt (hFb c) hq).mpr q1)
          · refine P_lload8 (pc' := 102) dX9_stood_100 rfl ?_
            refine P_goto (tgt := 107) dX9_stood_102 rfl ?_
            refine P_lstore5 (pc' := 109) dX9_stood_107 rfl (by decide) rfl ?_
            refine P_iinc7 (pc' := 112) dX9_stood_109 rfl (nI_1 c) (by decide) rfl ?_
            refine P_goto (tgt := 58) dX9_stood_112 rfl ?_
            exact ih (c + 1) I3 (c, F c) _ _ (by omega) hM3 (hFb c) hR
    · rw [if_neg q1] at hR
      refine P_iload7 (pc' := 60) dX9_stood_58 rfl ?_
      refine P_bipush (pc' := 62) dX9_stood_60 rfl (v := 8) rfl ?_
      refine P_icmp_gt (tgt := 115) (pc' := 65) dX9_stood_62 rfl rfl (fun h62 => ?_) (fun h62 => ?_)
      · exact absurd h62 (Int32.not_lt.mpr (nI_le (a := c) (b := 8) (by omega) (by decide)))
      · refine P_aload0 (pc' := 66) dX9_stood_65 rfl ?_
        refine P_iload1 (pc' := 67) dX9_stood_66 rfl ?_
        refine P_iload2 (pc' := 68) dX9_stood_67 rfl ?_
        refine P_iload7 (pc' := 70) dX9_stood_68 rfl ?_
        refine P_callV3 (pc' := 73) dX9_stood_70 rfl lk_X9_175 (l_55 hsh) (t_55 hsh) (c_X9_offBy (d := 9) (n := n) hsh hr hrd hi hm em hn hb (by omega) hw hM (by omega)) (by omega) (Nat.le_of_ble_eq_true rfl) (fun r S3 I3 hq => ?_)
        obtain ⟨rfl, rfl, hM3⟩ := hq
        rw [hF c]
        refine P_lstore8 (pc' := 75) dX9_stood_73 rfl (by decide) rfl ?_
        refine P_lload8 (pc' := 77) dX9_stood_75 rfl ?_
        refine P_lload5 (pc' := 79) dX9_stood_77 rfl ?_
        refine P_lcmp (pc' := 80) dX9_stood_79 rfl ?_
        refine P_if_ge (tgt := 88) (pc' := 83) dX9_stood_80 rfl rfl (fun h80 => ?_) (fun h80 => ?_)
        · refine P_iload4 (pc' := 90) dX9_stood_88 rfl ?_
          refine P_istore4 (pc' := 92) dX9_stood_90 rfl (by decide) rfl ?_
          refine P_lload8 (pc' := 94) dX9_stood_92 rfl ?_
          refine P_lload5 (pc' := 96) dX9_stood_94 rfl ?_
          refine P_lcmp (pc' := 97) dX9_stood_96 rfl ?_
          refine P_if_ge (tgt := 105) (pc' := 100) dX9_stood_97 rfl rfl (fun h97 => ?_) (fun h97 => ?_)
          · refine P_lload5 (pc' := 107) dX9_stood_105 rfl ?_
            refine P_lstore5 (pc' := 109) dX9_stood_107 rfl (by decide) rfl ?_
            refine P_iinc7 (pc' := 112) dX9_stood_109 rfl (nI_1 c) (by decide) rfl ?_
            refine P_goto (tgt := 58) dX9_stood_112 rfl ?_
            exact ih (c + 1) I3 q _ _ (by omega) hM3 hq hR
          · exact absurd ((lt (hFb c) hq).mp h97) q1
        · exact absurd ((lt (hFb c) hq).mp h80) q1
theorem r_stood {G : GX} {S : Shp} {I T : Mem} {d tn bn : Nat} {tx : Nat → Tx} (hT : KT T tn bn tx) (hsh : SHP S) (hI : RI T I) (s b y : Int32) (hd : 12 ≤ d) : PM G yX9_stood cX9_stood 10 (some .int) d 0 0 [.ref 55, .int s, .int b, .int y] S I (RO S I T (vSto T tn tx s b y)) := by
  obtain ⟨n, hn, hw, eR, hz, hr, hrd⟩ := hT.n hI
  refine PM.of (ls := [some (.ref 55), some (.int s), some (.int b), some (.int y), none, none, none, none, none, none]) (by decide) rfl (Nat.le_of_ble_eq_true rfl) rfl ?_
  show PW G RX9 "stood" _ _ _ _ _ _ _ _ _ _ _ _
  by_cases hs : wi s 0 3 = 0
  · rw [show vSto T tn tx s b y = -1000000001 from if_pos hs]
    refine P_iload1 (pc' := 1) dX9_stood_0 rfl ?_
    refine P_callS1 (pc' := 4) dX9_stood_1 rfl lk_X9_171 (c_X9_isSheet (d := 1) s (by omega)) (by omega) (Nat.le_of_ble_eq_true rfl) (fun r S' I' hq => ?_)
    obtain ⟨rfl, rfl, rfl⟩ := hq
    refine P_if_eq (tgt := 24) (pc' := 7) dX9_stood_4 rfl rfl (fun h4 => ?_) (fun h4 => ?_)
    · refine P_ldc (pc' := 26) dX9_stood_24 rfl co_X9_83 ?_
      refine P_iret dX9_stood_26 ?_
      exact RO.id hI
    · exact absurd hs h4
  by_cases hb : wi b 0 (nI n - 1) = 0
  · rw [show vSto T tn tx s b y = -1000000001 from (if_neg hs).trans (if_pos (by rw [hw.1]; exact hb))]
    refine P_iload1 (pc' := 1) dX9_stood_0 rfl ?_
    refine P_callS1 (pc' := 4) dX9_stood_1 rfl lk_X9_171 (c_X9_isSheet (d := 1) s (by omega)) (by omega) (Nat.le_of_ble_eq_true rfl) (fun r S' I' hq => ?_)
    obtain ⟨rfl, rfl, rfl⟩ := hq
    refine P_if_eq (tgt := 24) (pc' := 7) dX9_stood_4 rfl rfl (fun h4 => ?_) (fun h4 => ?_)
    · exact absurd h4 hs
    · refine P_aload0 (pc' := 8) dX9_stood_7 rfl ?_
      refine P_iload2 (pc' := 9) dX9_stood_8 rfl ?_
      refine P_callV1 (pc' := 12) dX9_stood_9 rfl lk_X9_93 (l_55 hsh) (t_55 hsh) (c_X9_isBeggar (d := 1) b hsh hz (by omega)) (by omega) (Nat.le_of_ble_eq_true rfl) (fun r S' I' hq => ?_)
      obtain ⟨rfl, rfl, rfl⟩ := hq
      refine P_if_eq (tgt := 24) (pc' := 15) dX9_stood_12 rfl rfl (fun h12 => ?_) (fun h12 => ?_)
      · refine P_ldc (pc' := 26) dX9_stood_24 rfl co_X9_83 ?_
        refine P_iret dX9_stood_26 ?_
        exact RO.id hI
      · exact absurd hb h12
  by_cases hy : wi y 0 1 = 0
  · rw [show vSto T tn tx s b y = -1000000001 from (if_neg hs).trans ((if_neg (by rw [hw.1]; exact hb)).trans (if_pos hy))]
    refine P_iload1 (pc' := 1) dX9_stood_0 rfl ?_
    refine P_callS1 (pc' := 4) dX9_stood_1 rfl lk_X9_171 (c_X9_isSheet (d := 1) s (by omega)) (by omega) (Nat.le_of_ble_eq_true rfl) (fun r S' I' hq => ?_)
    obtain ⟨rfl, rfl, rfl⟩ := hq
    refine P_if_eq (tgt := 24) (pc' := 7) dX9_stood_4 rfl rfl (fun h4 => ?_) (fun h4 => ?_)
    · exact absurd h4 hs
    · refine P_aload0 (pc' := 8) dX9_stood_7 rfl ?_
      refine P_iload2 (pc' := 9) dX9_stood_8 rfl ?_
      refine P_callV1 (pc' := 12) dX9_stood_9 rfl lk_X9_93 (l_55 hsh) (t_55 hsh) (c_X9_isBeggar (d := 1) b hsh hz (by omega)) (by omega) (Nat.le_of_ble_eq_true rfl) (fun r S' I' hq => ?_)
      obtain ⟨rfl, rfl, rfl⟩ := hq
      refine P_if_eq (tgt := 24) (pc' := 15) dX9_stood_12 rfl rfl (fun h12 => ?_) (fun h12 => ?_)
      · exact absurd h12 hb
      · refine P_iload3 (pc' := 16) dX9_stood_15 rfl ?_
        refine P_iconst (pc' := 17) dX9_stood_16 rfl (v := 0) rfl ?_
        refine P_iconst (pc' := 18) dX9_stood_17 rfl (v := 1) rfl ?_
        refine P_callS3 (pc' := 21) dX9_stood_18 rfl lk_X9_75 (c_X9_in (d := 0) y 0 1) (by omega) (Nat.le_of_ble_eq_true rfl) (fun r S' I' hq => ?_)
        obtain ⟨rfl, rfl, rfl⟩ := hq
        refine P_if_ne (tgt := 27) (pc' := 24) dX9_stood_21 rfl rfl (fun h21 => ?_) (fun h21 => ?_)
        · exact absurd hy h21
        · refine P_ldc (pc' := 26) dX9_stood_24 rfl co_X9_83 ?_
          refine P_iret dX9_stood_26 ?_
          exact RO.id hI
  obtain ⟨i, hi, rfl⟩ := wi_b (m := 3) (by decide) hs
  obtain ⟨j, hj, rfl⟩ := wi_n (by omega) hb
  obtain ⟨s1, ⟨m, hm, s2⟩, s3⟩ := hT.2.2.2.2.1 i (by omega)
  have e68 : I 68 i = T 68 i := by rw [hI 68 (by decide) (by decide)]
  have e69 : I 69 i = nI m := by rw [hI 69 (by decide) (by decide)]; exact s2
  have e70 : I 70 = T 70 := hI 70 (by decide) (by decide)
  have ev : vSto T tn tx (nI i) (nI j) y = if T 68 i = -1 then -1000000011 else if y = 0 then nI (smS (fun c => dvF (alX tn tx) n j (fun j => T 70 (24 * i + j)) m 0 (upd (aR T) (17 + 5 * j) (nI c))) 8 1 (0, dvF (alX tn tx) n j (fun j => T 70 (24 * i + j)) m 0 (upd (aR T) (17 + 5 * j) (nI 0)))).1 else nI (smS (fun c => dvF (alX tn tx) n j (fun j => T 70 (24 * i + j)) m 0 (upd (aR T) (17 + 5 * j) (nI c))) 8 1 (0, dvF (alX tn tx) n j (fun j => T 70 (24 * i + j)) m 0 (upd (aR T) (17 + 5 * j) (nI 0)))).2 := by unfold vSto; rw [if_neg hs, hw.1, if_neg hb, if_neg hy, nI_clamp (by omega), nI_clamp (by omega), nI_clamp (by omega), s2, nI_clamp (by omega)]
  rw [ev]
  have hFb : ∀ c, dvF (alX tn tx) n j (fun j => T 70 (24 * i + j)) m 0 (upd (aR T) (17 + 5 * j) (nI c)) < 2 ^ 40 := fun c => by
    have := dvF_b (al := alX tn tx) (n := n) (b := j) (f := fun j => T 70 (24 * i + j)) m 0 (upd (aR T) (17 + 5 * j) (nI c))
    omega
  generalize hF : (fun c => dvF (alX tn tx) n j (fun j => T 70 (24 * i + j)) m 0 (upd (aR T) (17 + 5 * j) (nI c))) = F
  have hF2 : ∀ c, dvF (alX tn tx) n j (fun j => T 70 (24 * i + j)) m 0 (upd (aR T) (17 + 5 * j) (nI c)) = F c := fun c => by rw [← hF]
  have hF3 : ∀ c, dvF (alX tn tx) n j (fun j => I 70 (24 * i + j)) m 0 (upd (aR I) (17 + 5 * j) (nI c)) = F c := fun c => by rw [eR, e70]; exact hF2 c
  have hFb2 : ∀ c, F c < 2 ^ 40 := fun c => by rw [← hF2 c]; exact hFb c
  rw [hF2 0]
  have hwI : WA (aR I) n := by rw [eR]; exact hw
  rcases s1 with z | z
  · rw [if_pos z]
    refine P_iload1 (pc' := 1) dX9_stood_0 rfl ?_
    refine P_callS1 (pc' := 4) dX9_stood_1 rfl lk_X9_171 (c_X9_isSheet (d := 1) _ (by omega)) (by omega) (Nat.le_of_ble_eq_true rfl) (fun r S' I' hq => ?_)
    obtain ⟨rfl, rfl, rfl⟩ := hq
    refine P_if_eq (tgt := 24) (pc' := 7) dX9_stood_4 rfl rfl (fun h4 => ?_) (fun h4 => ?_)
    · exact absurd h4 hs
    · refine P_aload0 (pc' := 8) dX9_stood_7 rfl ?_
      refine P_iload2 (pc' := 9) dX9_stood_8 rfl ?_
      refine P_callV1 (pc' := 12) dX9_stood_9 rfl lk_X9_93 (l_55 hsh) (t_55 hsh) (c_X9_isBeggar (d := 1) _ hsh hz (by omega)) (by omega) (Nat.le_of_ble_eq_true rfl) (fun r S' I' hq => ?_)
      obtain ⟨rfl, rfl, rfl⟩ := hq
      refine P_if_eq (tgt := 24) (pc' := 15) dX9_stood_12 rfl rfl (fun h12 => ?_) (fun h12 => ?_)
      · exact absurd h12 hb
      · refine P_iload3 (pc' := 16) dX9_stood_15 rfl ?_
        refine P_iconst (pc' := 17) dX9_stood_16 rfl (v := 0) rfl ?_
        refine P_iconst (pc' := 18) dX9_stood_17 rfl (v := 1) rfl ?_
        refine P_callS3 (pc' := 21) dX9_stood_18 rfl lk_X9_75 (c_X9_in (d := 0) y 0 1) (by omega) (Nat.le_of_ble_eq_true rfl) (fun r S' I' hq => ?_)
        obtain ⟨rfl, rfl, rfl⟩ := hq
        refine P_if_ne (tgt := 27) (pc' := 24) dX9_stood_21 rfl rfl (fun h21 => ?_) (fun h21 => ?_)
        · refine P_aload0 (pc' := 28) dX9_stood_27 rfl ?_
          refine P_getr (pc' := 31) dX9_stood_28 rfl fl_X9_48 rfl (l_55 hsh) (t_55 hsh) (q_55_23 hsh) ?_
          refine P_iload1 (pc' := 32) dX9_stood_31 rfl ?_
          refine P_iald (pc' := 33) dX9_stood_32 rfl (l_68 hsh) (t_68 hsh) (j := i) rfl (by omega) (by decide) ?_
          refine P_as (e68.trans z) ?_
          refine P_if_ge (tgt := 39) (pc' := 36) dX9_stood_33 rfl rfl (fun h33 => ?_) (fun h33 => ?_)
          · exact absurd h33 (by decide)
          · refine P_ldc (pc' := 38) dX9_stood_36 rfl co_X9_174 ?_
            refine P_iret dX9_stood_38 ?_
            exact RO.id hI
        · exact absurd h21 hy
  · have z1 : ¬ T 68 i = -1 := by rcases z with z | z <;> rw [z] <;> decide
    have z2 : 0 ≤ T 68 i := by rcases z with z | z <;> rw [z] <;> decide
    rw [if_neg z1]
    refine P_iload1 (pc' := 1) dX9_stood_0 rfl ?_
    refine P_callS1 (pc' := 4) dX9_stood_1 rfl lk_X9_171 (c_X9_isSheet (d := 1) _ (by omega)) (by omega) (Nat.le_of_ble_eq_true rfl) (fun r S' I' hq => ?_)
    obtain ⟨rfl, rfl, rfl⟩ := hq
    refine P_if_eq (tgt := 24) (pc' := 7) dX9_stood_4 rfl rfl (fun h4 => ?_) (fun h4 => ?_)
    · exact absurd h4 hs
    · refine P_aload0 (pc' := 8) dX9_stood_7 rfl ?_
      refine P_iload2 (pc' := 9) dX9_stood_8 rfl ?_
      refine P_callV1 (pc' := 12) dX9_stood_9 rfl lk_X9_93 (l_55 hsh) (t_55 hsh) (c_X9_isBeggar (d := 1) _ hsh hz (by omega)) (by omega) (Nat.le_of_ble_eq_true rfl) (fun r S' I' hq => ?_)
      obtain ⟨rfl, rfl, rfl⟩ := hq
      refine P_if_eq (tgt := 24) (pc' := 15) dX9_stood_12 rfl rfl (fun h12 => ?_) (fun h12 => ?_)
      · exact absurd h12 hb
      · refine P_iload3 (pc' := 16) dX9_stood_15 rfl ?_
        refine P_iconst (pc' := 17) dX9_stood_16 rfl (v := 0) rfl ?_
        refine P_iconst (pc' := 18) dX9_stood_17 rfl (v := 1) rfl ?_
        refine P_callS3 (pc' := 21) dX9_stood_18 rfl lk_X9_75 (c_X9_in (d := 0) y 0 1) (by omega) (Nat.le_of_ble_eq_true rfl) (fun r S' I' hq => ?_)
        obtain ⟨rfl, rfl, rfl⟩ := hq
        refine P_if_ne (tgt := 27) (pc' := 24) dX9_stood_21 rfl rfl (fun h21 => ?_) (fun h21 => ?_)
        · refine P_aload0 (pc' := 28) dX9_stood_27 rfl ?_
          refine P_getr (pc' := 31) dX9_stood_28 rfl fl_X9_48 rfl (l_55 hsh) (t_55 hsh) (q_55_23 hsh) ?_
          refine P_iload1 (pc' := 32) dX9_stood_31 rfl ?_
          refine P_iald (pc' := 33) dX9_stood_32 rfl (l_68 hsh) (t_68 hsh) (j := i) rfl (by omega) (by decide) ?_
          refine P_as e68 ?_
          refine P_if_ge (tgt := 39) (pc' := 36) dX9_stood_33 rfl rfl (fun h33 => ?_) (fun h33 => ?_)
          · refine P_aload0 (pc' := 40) dX9_stood_39 rfl ?_
            refine P_callV0 (pc' := 43) dX9_stood_40 rfl lk_X9_153 (l_55 hsh) (t_55 hsh) (c_X9_thinks (d := 1) hsh) (by omega) (Nat.le_of_ble_eq_true rfl) (fun r S' I' hq => ?_)
            obtain ⟨rfl, rfl, rfl⟩ := hq
            refine P_iconst (pc' := 44) dX9_stood_43 rfl (v := 0) rfl ?_
            refine P_istore4 (pc' := 46) dX9_stood_44 rfl (by decide) rfl ?_
            refine P_aload0 (pc' := 47) dX9_stood_46 rfl ?_
            refine P_iload1 (pc' := 48) dX9_stood_47 rfl ?_
            refine P_iload2 (pc' := 49) dX9_stood_48 rfl ?_
            refine P_iconst (pc' := 50) dX9_stood_49 rfl (v := 0) rfl ?_
            refine P_callV3 (pc' := 53) dX9_stood_50 rfl lk_X9_175 (l_55 hsh) (t_55 hsh) (c_X9_offBy (d := 9) (n := n) (c := 0) hsh hr hrd (by omega) hm e69 hn hj (by decide) hwI (TK.start I) (by omega)) (by omega) (Nat.le_of_ble_eq_true rfl) (fun r S3 I3 hq => ?_)
            obtain ⟨rfl, rfl, hM3⟩ := hq
            rw [hF3 0]
            refine P_lstore5 (pc' := 55) dX9_stood_53 rfl (by decide) rfl ?_
            refine P_iconst (pc' := 56) dX9_stood_55 rfl (v := 1) rfl ?_
            refine P_istore7 (pc' := 58) dX9_stood_56 rfl (by decide) rfl ?_
            exact lp_X9_stood hsh hI hr hrd hwI (by omega) hm e69 hn hj hd hF3 hFb2 8 1 I3 (0, F 0) _ _ (by decide) hM3 (hFb2 0) rfl
          · exact absurd z2 h33
        · exact absurd h21 hy

