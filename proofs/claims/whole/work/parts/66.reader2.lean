theorem RdI.flt {b : Nat → Int32} {n : Nat} {ky : Int32} {s : RS} {I J : Mem} (h : RdI b n ky s I) (hn : n ≤ 96) (j1 : J 22 1 = 4) (j4 : J 22 4 = fvV (fl s).2.1) (hk : ∀ k, k ≠ 1 → k ≠ 4 → J 22 k = I 22 k) (ho : ∀ y, y ≠ 22 → J y = I y) : RdI b n ky (fl s) J := by
  obtain ⟨⟨⟨a1, a2⟩, a3, a4, ⟨a5, a6⟩, a7, a8, a9⟩, ⟨c1, c2, c3⟩, hw⟩ := h
  refine ⟨⟨⟨by rw [ho 23 (by decide)]; exact a1, by rw [ho 24 (by decide)]; exact a2⟩, j4, by rw [hk 5 (by decide) (by decide)]; exact a4, ⟨by rw [hk 7 (by decide) (by decide)]; exact a5, fun k hk' => by rw [ho 25 (by decide)]; exact a6 k hk'⟩, by rw [hk 8 (by decide) (by decide)]; exact a7, a8, fun p hp => ?_⟩, ⟨j1, by rw [hk 2 (by decide) (by decide)]; exact c2, by rw [hk 3 (by decide) (by decide)]; exact c3⟩, WOk.fl hw⟩
  cases f : s.2.1 with
  | some q =>
    rw [fl_f f] at hp
    cases hp
    exact a9 p f
  | none =>
    have e : (fl s).2.1 = some s.1.2.1 := by
      show (match s.2.1 with | none => some s.1.2.1 | some p => some p) = _
      rw [f]
    rw [e] at hp
    cases hp
    have := hw.2.1
    omega
theorem c_X2_fail {G : GX} {S : Shp} {I : Mem} {b : Nat → Int32} {d n : Nat} {ky : Int32} {s : RS} (hsh : SHP S) (hn : n ≤ 96) (h : RdI b n ky s I) : PM G yX2_fail cX2_fail 1 none d 0 0 [.ref 22] S I (fun r S' J => r = none ∧ S = S' ∧ RdI b n ky (fl s) J ∧ ∀ x, x ≠ 22 → J x = I x) := by
  have h4 := h.1.2.1
  have h2 := h.2.1.2.1
  have b9 := h.1.2.2.2.2.2.2
  refine PM.of (ls := [some (.ref 22)]) (by decide) rfl (Nat.le_of_ble_eq_true rfl) rfl ?_
  show PW G RX2 "fail" _ _ _ _ _ _ _ _ _ _ _ _
  cases f : s.2.1 with
  | none =>
    have e : (fl s).2.1 = some s.1.2.1 := by
      show (match s.2.1 with | none => some s.1.2.1 | some p => some p) = _
      rw [f]
    rw [f] at h4
    refine P_aload0 (pc' := 1) dX2_fail_0 rfl ?_
    refine P_geti (pc' := 4) dX2_fail_1 rfl fl_X2_28 rfl (l_22 hsh) (t_22 hsh) ?_
    refine P_as h4 ?_
    refine P_if_ge (tgt := 15) (pc' := 7) dX2_fail_4 rfl rfl (fun h4 => ?_) (fun h4 => ?_)
    · exact absurd h4 (by decide)
    · refine P_aload0 (pc' := 8) dX2_fail_7 rfl ?_
      refine P_aload0 (pc' := 9) dX2_fail_8 rfl ?_
      refine P_geti (pc' := 12) dX2_fail_9 rfl fl_X2_22 rfl (l_22 hsh) (t_22 hsh) ?_
      refine P_as h2 ?_
      refine P_puti (pc' := 15) dX2_fail_12 rfl fl_X2_28 rfl (l_22 hsh) (t_22 hsh) ?_
      refine P_aload0 (pc' := 16) dX2_fail_15 rfl ?_
      refine P_iconst (pc' := 17) dX2_fail_16 rfl (v := 4) rfl ?_
      refine P_puti (pc' := 20) dX2_fail_17 rfl fl_X2_18 rfl (l_22 hsh) (t_22 hsh) ?_
      refine P_vret dX2_fail_20 ?_
      exact ⟨rfl, rfl, h.flt hn (u2_s _ _ _ _) (by rw [e, u2_k (by decide), u2_s]; rfl) (fun k h1 h4 => by rw [u2_k h1, u2_k h4]) (fun y hy => by rw [u2_row hy, u2_row hy]), fun x hx => by rw [u2_row hx, u2_row hx]⟩
  | some p =>
    rw [f] at h4
    refine P_aload0 (pc' := 1) dX2_fail_0 rfl ?_
    refine P_geti (pc' := 4) dX2_fail_1 rfl fl_X2_28 rfl (l_22 hsh) (t_22 hsh) ?_
    refine P_as (y := nI p) h4 ?_
    refine P_if_ge (tgt := 15) (pc' := 7) dX2_fail_4 rfl rfl (fun h4 => ?_) (fun h4 => ?_)
    · refine P_aload0 (pc' := 16) dX2_fail_15 rfl ?_
      refine P_iconst (pc' := 17) dX2_fail_16 rfl (v := 4) rfl ?_
      refine P_puti (pc' := 20) dX2_fail_17 rfl fl_X2_18 rfl (l_22 hsh) (t_22 hsh) ?_
      refine P_vret dX2_fail_20 ?_
      exact ⟨rfl, rfl, h.flt hn (u2_s _ _ _ _) (by rw [fl_f f, u2_k (by decide), h.1.2.1, f]) (fun k h1 h4 => by rw [u2_k h1]) (fun y hy => by rw [u2_row hy]), fun x hx => by rw [u2_row hx]⟩
    · exact absurd (nI_pos' (by have := b9 p f; omega)) h4
theorem c_X2_isSign {G : GX} {S : Shp} {I : Mem} {b : Nat → Int32} {d n : Nat} {ky c : Int32} {s : RS} (hsh : SHP S) (hn : n ≤ 96) (h : RdI b n ky s I) : PM G yX2_isSign cX2_isSign 2 (some .boolean) d 0 0 [.ref 22, .int c] S I (Rm S I (if s.1.1 = 3 ∧ b s.1.2.1 = c then 1 else 0)) := by
  obtain ⟨⟨⟨h22, h23⟩, -⟩, ⟨h1, h2, h3⟩, hw⟩ := h
  have w1 := hw.1
  have w2 := hw.2.1
  have w3 := hw.2.2.1
  refine PM.of (ls := [some (.ref 22), some (.int c)]) (by decide) rfl (Nat.le_of_ble_eq_true rfl) rfl ?_
  show PW G RX2 "isSign" _ _ _ _ _ _ _ _ _ _ _ _
  by_cases q : s.1.1 = 3
  · have lt := hw.2.2.2.1 (Or.inr (Or.inr q))
    refine P_aload0 (pc' := 1) dX2_isSign_0 rfl ?_
    refine P_geti (pc' := 4) dX2_isSign_1 rfl fl_X2_18 rfl (l_22 hsh) (t_22 hsh) ?_
    refine P_as (y := 3) (by rw [h1, q]; rfl) ?_
    refine P_iconst (pc' := 5) dX2_isSign_4 rfl (v := 3) rfl ?_
    refine P_icmp_ne (tgt := 42) (pc' := 8) dX2_isSign_5 rfl rfl (fun h5 => ?_) (fun h5 => ?_)
    · exact absurd rfl h5
    · refine P_aload0 (pc' := 9) dX2_isSign_8 rfl ?_
      refine P_geti (pc' := 12) dX2_isSign_9 rfl fl_X2_22 rfl (l_22 hsh) (t_22 hsh) ?_
      refine P_as h2 ?_
      refine P_aload0 (pc' := 13) dX2_isSign_12 rfl ?_
      refine P_getr (pc' := 16) dX2_isSign_13 rfl fl_X2_12 rfl (l_22 hsh) (t_22 hsh) (q_22_0 hsh) ?_
      refine P_geti (pc' := 19) dX2_isSign_16 rfl fl_X2_81 rfl (l_23 hsh) (t_23 hsh) ?_
      refine P_as h22 ?_
      refine P_icmp_ge (tgt := 42) (pc' := 22) dX2_isSign_19 rfl rfl (fun h19 => ?_) (fun h19 => ?_)
      · exact absurd h19 (nI_ge (by omega) (by omega))
      · refine P_aload0 (pc' := 23) dX2_isSign_22 rfl ?_
        refine P_getr (pc' := 26) dX2_isSign_23 rfl fl_X2_12 rfl (l_22 hsh) (t_22 hsh) (q_22_0 hsh) ?_
        refine P_getr (pc' := 29) dX2_isSign_26 rfl fl_X2_84 rfl (l_23 hsh) (t_23 hsh) (q_23_0 hsh) ?_
        refine P_aload0 (pc' := 30) dX2_isSign_29 rfl ?_
        refine P_geti (pc' := 33) dX2_isSign_30 rfl fl_X2_22 rfl (l_22 hsh) (t_22 hsh) ?_
        refine P_as h2 ?_
        refine P_bald (pc' := 34) dX2_isSign_33 rfl (l_24 hsh) (t_24 hsh) (j := s.1.2.1) rfl (by omega) (by decide) ?_
        rw [h23]
        refine P_iload1 (pc' := 35) dX2_isSign_34 rfl ?_
        refine P_icmp_ne (tgt := 42) (pc' := 38) dX2_isSign_35 rfl rfl (fun h35 => ?_) (fun h35 => ?_)
        · refine P_iconst (pc' := 43) dX2_isSign_42 rfl (v := 0) rfl ?_
          refine P_zret dX2_isSign_43 (by first | exact Or.inl rfl | exact Or.inr rfl) ?_
          first
            | (rw [if_pos ⟨q, h35⟩]; exact ⟨rfl, rfl, rfl⟩)
            | (rw [if_neg (fun z => h35 z.2)]; exact ⟨rfl, rfl, rfl⟩)
        · refine P_iconst (pc' := 39) dX2_isSign_38 rfl (v := 1) rfl ?_
          refine P_goto (tgt := 43) dX2_isSign_39 rfl ?_
          refine P_zret dX2_isSign_43 (by first | exact Or.inl rfl | exact Or.inr rfl) ?_
          first
            | (rw [if_pos ⟨q, h35⟩]; exact ⟨rfl, rfl, rfl⟩)
            | (rw [if_neg (fun z => h35 z.2)]; exact ⟨rfl, rfl, rfl⟩)
  · rw [if_neg (fun z => q z.1)]
    refine P_aload0 (pc' := 1) dX2_isSign_0 rfl ?_
    refine P_geti (pc' := 4) dX2_isSign_1 rfl fl_X2_18 rfl (l_22 hsh) (t_22 hsh) ?_
    refine P_as h1 ?_
    refine P_iconst (pc' := 5) dX2_isSign_4 rfl (v := 3) rfl ?_
    refine P_icmp_ne (tgt := 42) (pc' := 8) dX2_isSign_5 rfl rfl (fun h5 => ?_) (fun h5 => ?_)
    · refine P_iconst (pc' := 43) dX2_isSign_42 rfl (v := 0) rfl ?_
      refine P_zret dX2_isSign_43 (by first | exact Or.inl rfl | exact Or.inr rfl) ?_
      exact ⟨rfl, rfl, rfl⟩
    · exact absurd ((nI_eq (b := 3) (by omega) (by decide)).mp h5) q
def lvV (o : Option Nat) : Int32 := match o with
  | none => -1
  | some l => nI l
theorem c_X2_levelHere {G : GX} {S : Shp} {I : Mem} {b : Nat → Int32} {d n : Nat} {ky : Int32} {s : RS} (hsh : SHP S) (hn : n ≤ 96) (h : RdI b n ky s I) : PM G yX2_levelHere cX2_levelHere 1 (some .int) d 0 0 [.ref 22] S I (Rm S I (lvV (lvH b s.1))) := by
  obtain ⟨⟨⟨h22, h23⟩, -⟩, ⟨h1, h2, h3⟩, hw⟩ := h
  have w1 := hw.1
  have w2 := hw.2.1
  have w3 := hw.2.2.1
  refine PM.of (ls := [some (.ref 22)]) (by decide) rfl (Nat.le_of_ble_eq_true rfl) rfl ?_
  show PW G RX2 "levelHere" _ _ _ _ _ _ _ _ _ _ _ _
  by_cases q : s.1.1 = 3
  · have lt := hw.2.2.2.1 (Or.inr (Or.inr q))
    have e0 : lvH b s.1 = lvO (b s.1.2.1) := if_pos q
    rw [e0]
    have e1 : I 22 1 = 3 := by rw [h1, q]; rfl
    have e23 : I 24 s.1.2.1 = b s.1.2.1 := by rw [h23]
    generalize b s.1.2.1 = v at e23
    by_cases z0 : v = 124
    · subst z0
      show PW _ _ _ _ _ _ _ _ _ (Rm S I (nI 0)) _ _ _ _ _
      refine P_aload0 (pc' := 1) dX2_levelHere_0 rfl ?_
      refine P_geti (pc' := 4) dX2_levelHere_1 rfl fl_X2_18 rfl (l_22 hsh) (t_22 hsh) ?_
      refine P_as e1 ?_
      refine P_iconst (pc' := 5) dX2_levelHere_4 rfl (v := 3) rfl ?_
      refine P_icmp_ne (tgt := 22) (pc' := 8) dX2_levelHere_5 rfl rfl (fun h5 => ?_) (fun h5 => ?_)
      · exact absurd rfl h5
      · refine P_aload0 (pc' := 9) dX2_levelHere_8 rfl ?_
        refine P_geti (pc' := 12) dX2_levelHere_9 rfl fl_X2_22 rfl (l_22 hsh) (t_22 hsh) ?_
        refine P_as h2 ?_
        refine P_aload0 (pc' := 13) dX2_levelHere_12 rfl ?_
        refine P_getr (pc' := 16) dX2_levelHere_13 rfl fl_X2_12 rfl (l_22 hsh) (t_22 hsh) (q_22_0 hsh) ?_
        refine P_geti (pc' := 19) dX2_levelHere_16 rfl fl_X2_81 rfl (l_23 hsh) (t_23 hsh) ?_
        refine P_as h22 ?_
        refine P_icmp_lt (tgt := 24) (pc' := 22) dX2_levelHere_19 rfl rfl (fun h19 => ?_) (fun h19 => ?_)
        · refine P_aload0 (pc' := 25) dX2_levelHere_24 rfl ?_
          refine P_getr (pc' := 28) dX2_levelHere_25 rfl fl_X2_12 rfl (l_22 hsh) (t_22 hsh) (q_22_0 hsh) ?_
          refine P_getr (pc' := 31) dX2_levelHere_28 rfl fl_X2_84 rfl (l_23 hsh) (t_23 hsh) (q_23_0 hsh) ?_
          refine P_aload0 (pc' := 32) dX2_levelHere_31 rfl ?_
          refine P_geti (pc' := 35) dX2_levelHere_32 rfl fl_X2_22 rfl (l_22 hsh) (t_22 hsh) ?_
          refine P_as h2 ?_
          refine P_bald (pc' := 36) dX2_levelHere_35 rfl (l_24 hsh) (t_24 hsh) (j := s.1.2.1) rfl (by omega) (by decide) ?_
          refine P_as e23 ?_
          refine P_look (tgt := 120) dX2_levelHere_36 (by decide) rfl rfl ?_
          refine P_iconst (pc' := 121) dX2_levelHere_120 rfl (v := 0) rfl ?_
          refine P_iret dX2_levelHere_121 ?_
          exact ⟨rfl, rfl, rfl⟩
        · exact absurd (nI_lt (by omega) (by omega)) h19
    by_cases z1 : v = 38
    · subst z1
      show PW _ _ _ _ _ _ _ _ _ (Rm S I (nI 1)) _ _ _ _ _
      refine P_aload0 (pc' := 1) dX2_levelHere_0 rfl ?_
      refine P_geti (pc' := 4) dX2_levelHere_1 rfl fl_X2_18 rfl (l_22 hsh) (t_22 hsh) ?_
      refine P_as e1 ?_
      refine P_iconst (pc' := 5) dX2_levelHere_4 rfl (v := 3) rfl ?_
      refine P_icmp_ne (tgt := 22) (pc' := 8) dX2_levelHere_5 rfl rfl (fun h5 => ?_) (fun h5 => ?_)
      · exact absurd rfl h5
      · refine P_aload0 (pc' := 9) dX2_levelHere_8 rfl ?_
        refine P_geti (pc' := 12) dX2_levelHere_9 rfl fl_X2_22 rfl (l_22 hsh) (t_22 hsh) ?_
        refine P_as h2 ?_
        refine P_aload0 (pc' := 13) dX2_levelHere_12 rfl ?_
        refine P_getr (pc' := 16) dX2_levelHere_13 rfl fl_X2_12 rfl (l_22 hsh) (t_22 hsh) (q_22_0 hsh) ?_
        refine P_geti (pc' := 19) dX2_levelHere_16 rfl fl_X2_81 rfl (l_23 hsh) (t_23 hsh) ?_
        refine P_as h22 ?_
        refine P_icmp_lt (tgt := 24) (pc' := 22) dX2_levelHere_19 rfl rfl (fun h19 => ?_) (fun h19 => ?_)
        · refine P_aload0 (pc' := 25) dX2_levelHere_24 rfl ?_
          refine P_getr (pc' := 28) dX2_levelHere_25 rfl fl_X2_12 rfl (l_22 hsh) (t_22 hsh) (q_22_0 hsh) ?_
          refine P_getr (pc' := 31) dX2_levelHere_28 rfl fl_X2_84 rfl (l_23 hsh) (t_23 hsh) (q_23_0 hsh) ?_
          refine P_aload0 (pc' := 32) dX2_levelHere_31 rfl ?_
          refine P_geti (pc' := 35) dX2_levelHere_32 rfl fl_X2_22 rfl (l_22 hsh) (t_22 hsh) ?_
          refine P_as h2 ?_
          refine P_bald (pc' := 36) dX2_levelHere_35 rfl (l_24 hsh) (t_24 hsh) (j := s.1.2.1) rfl (by omega) (by decide) ?_
          refine P_as e23 ?_
          refine P_look (tgt := 122) dX2_levelHere_36 (by decide) rfl rfl ?_
          refine P_iconst (pc' := 123) dX2_levelHere_122 rfl (v := 1) rfl ?_
          refine P_iret dX2_levelHere_123 ?_
          exact ⟨rfl, rfl, rfl⟩
        · exact absurd (nI_lt (by omega) (by omega)) h19
    by_cases z2 : v = 60
    · subst z2
      show PW _ _ _ _ _ _ _ _ _ (Rm S I (nI 2)) _ _ _ _ _
      refine P_aload0 (pc' := 1) dX2_levelHere_0 rfl ?_
      refine P_geti (pc' := 4) dX2_levelHere_1 rfl fl_X2_18 rfl (l_22 hsh) (t_22 hsh) ?_
      refine P_as e1 ?_
      refine P_iconst (pc' := 5) dX2_levelHere_4 rfl (v := 3) rfl ?_
      refine P_icmp_ne (tgt := 22) (pc' := 8) dX2_levelHere_5 rfl rfl (fun h5 => ?_) (fun h5 => ?_)
      · exact absurd rfl h5
      · refine P_aload0 (pc' := 9) dX2_levelHere_8 rfl ?_
        refine P_geti (pc' := 12) dX2_levelHere_9 rfl fl_X2_22 rfl (l_22 hsh) (t_22 hsh) ?_
        refine P_as h2 ?_
        refine P_aload0 (pc' := 13) dX2_levelHere_12 rfl ?_
        refine P_getr (pc' := 16) dX2_levelHere_13 rfl fl_X2_12 rfl (l_22 hsh) (t_22 hsh) (q_22_0 hsh) ?_
        refine P_geti (pc' := 19) dX2_levelHere_16 rfl fl_X2_81 rfl (l_23 hsh) (t_23 hsh) ?_
        refine P_as h22 ?_
        refine P_icmp_lt (tgt := 24) (pc' := 22) dX2_levelHere_19 rfl rfl (fun h19 => ?_) (fun h19 => ?_)
        · refine P_aload0 (pc' := 25) dX2_levelHere_24 rfl ?_
          refine P_getr (pc' := 28) dX2_levelHere_25 rfl fl_X2_12 rfl (l_22 hsh) (t_22 hsh) (q_22_0 hsh) ?_
          refine P_getr (pc' := 31) dX2_levelHere_28 rfl fl_X2_84 rfl (l_23 hsh) (t_23 hsh) (q_23_0 hsh) ?_
          refine P_aload0 (pc' := 32) dX2_levelHere_31 rfl ?_
          refine P_geti (pc' := 35) dX2_levelHere_32 rfl fl_X2_22 rfl (l_22 hsh) (t_22 hsh) ?_
          refine P_as h2 ?_
          refine P_bald (pc' := 36) dX2_levelHere_35 rfl (l_24 hsh) (t_24 hsh) (j := s.1.2.1) rfl (by omega) (by decide) ?_
          refine P_as e23 ?_
          refine P_look (tgt := 124) dX2_levelHere_36 (by decide) rfl rfl ?_
          refine P_iconst (pc' := 125) dX2_levelHere_124 rfl (v := 2) rfl ?_
          refine P_iret dX2_levelHere_125 ?_
          exact ⟨rfl, rfl, rfl⟩
        · exact absurd (nI_lt (by omega) (by omega)) h19
    by_cases z3 : v = 61
    · subst z3
      show PW _ _ _ _ _ _ _ _ _ (Rm S I (nI 2)) _ _ _ _ _
      refine P_aload0 (pc' := 1) dX2_levelHere_0 rfl ?_
      refine P_geti (pc' := 4) dX2_levelHere_1 rfl fl_X2_18 rfl (l_22 hsh) (t_22 hsh) ?_
      refine P_as e1 ?_
      refine P_iconst (pc' := 5) dX2_levelHere_4 rfl (v := 3) rfl ?_
      refine P_icmp_ne (tgt := 22) (pc' := 8) dX2_levelHere_5 rfl rfl (fun h5 => ?_) (fun h5 => ?_)
      · exact absurd rfl h5
      · refine P_aload0 (pc' := 9) dX2_levelHere_8 rfl ?_
        refine P_geti (pc' := 12) dX2_levelHere_9 rfl fl_X2_22 rfl (l_22 hsh) (t_22 hsh) ?_
        refine P_as h2 ?_
        refine P_aload0 (pc' := 13) dX2_levelHere_12 rfl ?_
        refine P_getr (pc' := 16) dX2_levelHere_13 rfl fl_X2_12 rfl (l_22 hsh) (t_22 hsh) (q_22_0 hsh) ?_
        refine P_geti (pc' := 19) dX2_levelHere_16 rfl fl_X2_81 rfl (l_23 hsh) (t_23 hsh) ?_
        refine P_as h22 ?_
        refine P_icmp_lt (tgt := 24) (pc' := 22) dX2_levelHere_19 rfl rfl (fun h19 => ?_) (fun h19 => ?_)
        · refine P_aload0 (pc' := 25) dX2_levelHere_24 rfl ?_
          refine P_getr (pc' := 28) dX2_levelHere_25 rfl fl_X2_12 rfl (l_22 hsh) (t_22 hsh) (q_22_0 hsh) ?_
          refine P_getr (pc' := 31) dX2_levelHere_28 rfl fl_X2_84 rfl (l_23 hsh) (t_23 hsh) (q_23_0 hsh) ?_
          refine P_aload0 (pc' := 32) dX2_levelHere_31 rfl ?_
          refine P_geti (pc' := 35) dX2_levelHere_32 rfl fl_X2_22 rfl (l_22 hsh) (t_22 hsh) ?_
          refine P_as h2 ?_
          refine P_bald (pc' := 36) dX2_levelHere_35 rfl (l_24 hsh) (t_24 hsh) (j := s.1.2.1) rfl (by omega) (by decide) ?_
          refine P_as e23 ?_
          refine P_look (tgt := 124) dX2_levelHere_36 (by decide) rfl rfl ?_
          refine P_iconst (pc' := 125) dX2_levelHere_124 rfl (v := 2) rfl ?_
          refine P_iret dX2_levelHere_125 ?_
          exact ⟨rfl, rfl, rfl⟩
        · exact absurd (nI_lt (by omega) (by omega)) h19
    by_cases z4 : v = 62
    · subst z4
      show PW _ _ _ _ _ _ _ _ _ (Rm S I (nI 2)) _ _ _ _ _
      refine P_aload0 (pc' := 1) dX2_levelHere_0 rfl ?_
      refine P_geti (pc' := 4) dX2_levelHere_1 rfl fl_X2_18 rfl (l_22 hsh) (t_22 hsh) ?_
      refine P_as e1 ?_
      refine P_iconst (pc' := 5) dX2_levelHere_4 rfl (v := 3) rfl ?_
      refine P_icmp_ne (tgt := 22) (pc' := 8) dX2_levelHere_5 rfl rfl (fun h5 => ?_) (fun h5 => ?_)
      · exact absurd rfl h5
      · refine P_aload0 (pc' := 9) dX2_levelHere_8 rfl ?_
        refine P_geti (pc' := 12) dX2_levelHere_9 rfl fl_X2_22 rfl (l_22 hsh) (t_22 hsh) ?_
        refine P_as h2 ?_
        refine P_aload0 (pc' := 13) dX2_levelHere_12 rfl ?_
        refine P_getr (pc' := 16) dX2_levelHere_13 rfl fl_X2_12 rfl (l_22 hsh) (t_22 hsh) (q_22_0 hsh) ?_
        refine P_geti (pc' := 19) dX2_levelHere_16 rfl fl_X2_81 rfl (l_23 hsh) (t_23 hsh) ?_
        refine P_as h22 ?_
        refine P_icmp_lt (tgt := 24) (pc' := 22) dX2_levelHere_19 rfl rfl (fun h19 => ?_) (fun h19 => ?_)
        · refine P_aload0 (pc' := 25) dX2_levelHere_24 rfl ?_
          refine P_getr (pc' := 28) dX2_levelHere_25 rfl fl_X2_12 rfl (l_22 hsh) (t_22 hsh) (q_22_0 hsh) ?_
          refine P_getr (pc' := 31) dX2_levelHere_28 rfl fl_X2_84 rfl (l_23 hsh) (t_23 hsh) (q_23_0 hsh) ?_
          refine P_aload0 (pc' := 32) dX2_levelHere_31 rfl ?_
          refine P_geti (pc' := 35) dX2_levelHere_32 rfl fl_X2_22 rfl (l_22 hsh) (t_22 hsh) ?_
          refine P_as h2 ?_
          refine P_bald (pc' := 36) dX2_levelHere_35 rfl (l_24 hsh) (t_24 hsh) (j := s.1.2.1) rfl (by omega) (by decide) ?_
          refine P_as e23 ?_
          refine P_look (tgt := 124) dX2_levelHere_36 (by decide) rfl rfl ?_
          refine P_iconst (pc' := 125) dX2_levelHere_124 rfl (v := 2) rfl ?_
          refine P_iret dX2_levelHere_125 ?_
          exact ⟨rfl, rfl, rfl⟩
        · exact absurd (nI_lt (by omega) (by omega)) h19
    by_cases z5 : v = 43
    · subst z5
      show PW _ _ _ _ _ _ _ _ _ (Rm S I (nI 3)) _ _ _ _ _
      refine P_aload0 (pc' := 1) dX2_levelHere_0 rfl ?_
      refine P_geti (pc' := 4) dX2_levelHere_1 rfl fl_X2_18 rfl (l_22 hsh) (t_22 hsh) ?_
      refine P_as e1 ?_
      refine P_iconst (pc' := 5) dX2_levelHere_4 rfl (v := 3) rfl ?_
      refine P_icmp_ne (tgt := 22) (pc' := 8) dX2_levelHere_5 rfl rfl (fun h5 => ?_) (fun h5 => ?_)
      · exact absurd rfl h5
      · refine P_aload0 (pc' := 9) dX2_levelHere_8 rfl ?_
        refine P_geti (pc' := 12) dX2_levelHere_9 rfl fl_X2_22 rfl (l_22 hsh) (t_22 hsh) ?_
        refine P_as h2 ?_
        refine P_aload0 (pc' := 13) dX2_levelHere_12 rfl ?_
        refine P_getr (pc' := 16) dX2_levelHere_13 rfl fl_X2_12 rfl (l_22 hsh) (t_22 hsh) (q_22_0 hsh) ?_
        refine P_geti (pc' := 19) dX2_levelHere_16 rfl fl_X2_81 rfl (l_23 hsh) (t_23 hsh) ?_
        refine P_as h22 ?_
        refine P_icmp_lt (tgt := 24) (pc' := 22) dX2_levelHere_19 rfl rfl (fun h19 => ?_) (fun h19 => ?_)
        · refine P_aload0 (pc' := 25) dX2_levelHere_24 rfl ?_
          refine P_getr (pc' := 28) dX2_levelHere_25 rfl fl_X2_12 rfl (l_22 hsh) (t_22 hsh) (q_22_0 hsh) ?_
          refine P_getr (pc' := 31) dX2_levelHere_28 rfl fl_X2_84 rfl (l_23 hsh) (t_23 hsh) (q_23_0 hsh) ?_
          refine P_aload0 (pc' := 32) dX2_levelHere_31 rfl ?_
          refine P_geti (pc' := 35) dX2_levelHere_32 rfl fl_X2_22 rfl (l_22 hsh) (t_22 hsh) ?_
          refine P_as h2 ?_
          refine P_bald (pc' := 36) dX2_levelHere_35 rfl (l_24 hsh) (t_24 hsh) (j := s.1.2.1) rfl (by omega) (by decide) ?_
          refine P_as e23 ?_
          refine P_look (tgt := 126) dX2_levelHere_36 (by decide) rfl rfl ?_
          refine P_iconst (pc' := 127) dX2_levelHere_126 rfl (v := 3) rfl ?_
          refine P_iret dX2_levelHere_127 ?_
          exact ⟨rfl, rfl, rfl⟩
        · exact absurd (nI_lt (by omega) (by omega)) h19
    by_cases z6 : v = 45
    · subst z6
      show PW _ _ _ _ _ _ _ _ _ (Rm S I (nI 3)) _ _ _ _ _
      refine P_aload0 (pc' := 1) dX2_levelHere_0 rfl ?_
      refine P_geti (pc' := 4) dX2_levelHere_1 rfl fl_X2_18 rfl (l_22 hsh) (t_22 hsh) ?_
      refine P_as e1 ?_
      refine P_iconst (pc' := 5) dX2_levelHere_4 rfl (v := 3) rfl ?_
      refine P_icmp_ne (tgt := 22) (pc' := 8) dX2_levelHere_5 rfl rfl (fun h5 => ?_) (fun h5 => ?_)
      · exact absurd rfl h5
      · refine P_aload0 (pc' := 9) dX2_levelHere_8 rfl ?_
        refine P_geti (pc' := 12) dX2_levelHere_9 rfl fl_X2_22 rfl (l_22 hsh) (t_22 hsh) ?_
        refine P_as h2 ?_
        refine P_aload0 (pc' := 13) dX2_levelHere_12 rfl ?_
        refine P_getr (pc' := 16) dX2_levelHere_13 rfl fl_X2_12 rfl (l_22 hsh) (t_22 hsh) (q_22_0 hsh) ?_
        refine P_geti (pc' := 19) dX2_levelHere_16 rfl fl_X2_81 rfl (l_23 hsh) (t_23 hsh) ?_
        refine P_as h22 ?_
        refine P_icmp_lt (tgt := 24) (pc' := 22) dX2_levelHere_19 rfl rfl (fun h19 => ?_) (fun h19 => ?_)
        · refine P_aload0 (pc' := 25) dX2_levelHere_24 rfl ?_
          refine P_getr (pc' := 28) dX2_levelHere_25 rfl fl_X2_12 rfl (l_22 hsh) (t_22 hsh) (q_22_0 hsh) ?_
          refine P_getr (pc' := 31) dX2_levelHere_28 rfl fl_X2_84 rfl (l_23 hsh) (t_23 hsh) (q_23_0 hsh) ?_
          refine P_aload0 (pc' := 32) dX2_levelHere_31 rfl ?_
          refine P_geti (pc' := 35) dX2_levelHere_32 rfl fl_X2_22 rfl (l_22 hsh) (t_22 hsh) ?_
          refine P_as h2 ?_
          refine P_bald (pc' := 36) dX2_levelHere_35 rfl (l_24 hsh) (t_24 hsh) (j := s.1.2.1) rfl (by omega) (by decide) ?_
          refine P_as e23 ?_
          refine P_look (tgt := 126) dX2_levelHere_36 (by decide) rfl rfl ?_
          refine P_iconst (pc' := 127) dX2_levelHere_126 rfl (v := 3) rfl ?_
          refine P_iret dX2_levelHere_127 ?_
          exact ⟨rfl, rfl, rfl⟩
        · exact absurd (nI_lt (by omega) (by omega)) h19
    by_cases z7 : v = 42
    · subst z7
      show PW _ _ _ _ _ _ _ _ _ (Rm S I (nI 4)) _ _ _ _ _
      refine P_aload0 (pc' := 1) dX2_levelHere_0 rfl ?_
      refine P_geti (pc' := 4) dX2_levelHere_1 rfl fl_X2_18 rfl (l_22 hsh) (t_22 hsh) ?_
      refine P_as e1 ?_
      refine P_iconst (pc' := 5) dX2_levelHere_4 rfl (v := 3) rfl ?_
      refine P_icmp_ne (tgt := 22) (pc' := 8) dX2_levelHere_5 rfl rfl (fun h5 => ?_) (fun h5 => ?_)
      · exact absurd rfl h5
      · refine P_aload0 (pc' := 9) dX2_levelHere_8 rfl ?_
        refine P_geti (pc' := 12) dX2_levelHere_9 rfl fl_X2_22 rfl (l_22 hsh) (t_22 hsh) ?_
        refine P_as h2 ?_
        refine P_aload0 (pc' := 13) dX2_levelHere_12 rfl ?_
        refine P_getr (pc' := 16) dX2_levelHere_13 rfl fl_X2_12 rfl (l_22 hsh) (t_22 hsh) (q_22_0 hsh) ?_
        refine P_geti (pc' := 19) dX2_levelHere_16 rfl fl_X2_81 rfl (l_23 hsh) (t_23 hsh) ?_
        refine P_as h22 ?_
        refine P_icmp_lt (tgt := 24) (pc' := 22) dX2_levelHere_19 rfl rfl (fun h19 => ?_) (fun h19 => ?_)
        · refine P_aload0 (pc' := 25) dX2_levelHere_24 rfl ?_
          refine P_getr (pc' := 28) dX2_levelHere_25 rfl fl_X2_12 rfl (l_22 hsh) (t_22 hsh) (q_22_0 hsh) ?_
          refine P_getr (pc' := 31) dX2_levelHere_28 rfl fl_X2_84 rfl (l_23 hsh) (t_23 hsh) (q_23_0 hsh) ?_
          refine P_aload0 (pc' := 32) dX2_levelHere_31 rfl ?_
          refine P_geti (pc' := 35) dX2_levelHere_32 rfl fl_X2_22 rfl (l_22 hsh) (t_22 hsh) ?_
          refine P_as h2 ?_
          refine P_bald (pc' := 36) dX2_levelHere_35 rfl (l_24 hsh) (t_24 hsh) (j := s.1.2.1) rfl (by omega) (by decide) ?_
          refine P_as e23 ?_
          refine P_look (tgt := 128) dX2_levelHere_36 (by decide) rfl rfl ?_
          refine P_iconst (pc' := 129) dX2_levelHere_128 rfl (v := 4) rfl ?_
          refine P_iret dX2_levelHere_129 ?_
          exact ⟨rfl, rfl, rfl⟩
        · exact absurd (nI_lt (by omega) (by omega)) h19
    by_cases z8 : v = 47
    · subst z8
      show PW _ _ _ _ _ _ _ _ _ (Rm S I (nI 4)) _ _ _ _ _
      refine P_aload0 (pc' := 1) dX2_levelHere_0 rfl ?_
      refine P_geti (pc' := 4) dX2_levelHere_1 rfl fl_X2_18 rfl (l_22 hsh) (t_22 hsh) ?_
      refine P_as e1 ?_
      refine P_iconst (pc' := 5) dX2_levelHere_4 rfl (v := 3) rfl ?_
      refine P_icmp_ne (tgt := 22) (pc' := 8) dX2_levelHere_5 rfl rfl (fun h5 => ?_) (fun h5 => ?_)
      · exact absurd rfl h5
      · refine P_aload0 (pc' := 9) dX2_levelHere_8 rfl ?_
        refine P_geti (pc' := 12) dX2_levelHere_9 rfl fl_X2_22 rfl (l_22 hsh) (t_22 hsh) ?_
        refine P_as h2 ?_
        refine P_aload0 (pc' := 13) dX2_levelHere_12 rfl ?_
        refine P_getr (pc' := 16) dX2_levelHere_13 rfl fl_X2_12 rfl (l_22 hsh) (t_22 hsh) (q_22_0 hsh) ?_
        refine P_geti (pc' := 19) dX2_levelHere_16 rfl fl_X2_81 rfl (l_23 hsh) (t_23 hsh) ?_
        refine P_as h22 ?_
        refine P_icmp_lt (tgt := 24) (pc' := 22) dX2_levelHere_19 rfl rfl (fun h19 => ?_) (fun h19 => ?_)
        · refine P_aload0 (pc' := 25) dX2_levelHere_24 rfl ?_
          refine P_getr (pc' := 28) dX2_levelHere_25 rfl fl_X2_12 rfl (l_22 hsh) (t_22 hsh) (q_22_0 hsh) ?_
          refine P_getr (pc' := 31) dX2_levelHere_28 rfl fl_X2_84 rfl (l_23 hsh) (t_23 hsh) (q_23_0 hsh) ?_
          refine P_aload0 (pc' := 32) dX2_levelHere_31 rfl ?_
          refine P_geti (pc' := 35) dX2_levelHere_32 rfl fl_X2_22 rfl (l_22 hsh) (t_22 hsh) ?_
          refine P_as h2 ?_
          refine P_bald (pc' := 36) dX2_levelHere_35 rfl (l_24 hsh) (t_24 hsh) (j := s.1.2.1) rfl (by omega) (by decide) ?_
          refine P_as e23 ?_
          refine P_look (tgt := 128) dX2_levelHere_36 (by decide) rfl rfl ?_
          refine P_iconst (pc' := 129) dX2_levelHere_128 rfl (v := 4) rfl ?_
          refine P_iret dX2_levelHere_129 ?_
          exact ⟨rfl, rfl, rfl⟩
        · exact absurd (nI_lt (by omega) (by omega)) h19
    rw [show lvO v = none by unfold lvO; rw [if_neg z0, if_neg z1, if_neg z2, if_neg z3, if_neg z4, if_neg z5, if_neg z6, if_neg z7, if_neg z8]]
    refine P_aload0 (pc' := 1) dX2_levelHere_0 rfl ?_
    refine P_geti (pc' := 4) dX2_levelHere_1 rfl fl_X2_18 rfl (l_22 hsh) (t_22 hsh) ?_
    refine P_as e1 ?_
    refine P_iconst (pc' := 5) dX2_levelHere_4 rfl (v := 3) rfl ?_
    refine P_icmp_ne (tgt := 22) (pc' := 8) dX2_levelHere_5 rfl rfl (fun h5 => ?_) (fun h5 => ?_)
    · exact absurd rfl h5
    · refine P_aload0 (pc' := 9) dX2_levelHere_8 rfl ?_
      refine P_geti (pc' := 12) dX2_levelHere_9 rfl fl_X2_22 rfl (l_22 hsh) (t_22 hsh) ?_
      refine P_as h2 ?_
      refine P_aload0 (pc' := 13) dX2_levelHere_12 rfl ?_
      refine P_getr (pc' := 16) dX2_levelHere_13 rfl fl_X2_12 rfl (l_22 hsh) (t_22 hsh) (q_22_0 hsh) ?_
      refine P_geti (pc' := 19) dX2_levelHere_16 rfl fl_X2_81 rfl (l_23 hsh) (t_23 hsh) ?_
      refine P_as h22 ?_
      refine P_icmp_lt (tgt := 24) (pc' := 22) dX2_levelHere_19 rfl rfl (fun h19 => ?_) (fun h19 => ?_)
      · refine P_aload0 (pc' := 25) dX2_levelHere_24 rfl ?_
        refine P_getr (pc' := 28) dX2_levelHere_25 rfl fl_X2_12 rfl (l_22 hsh) (t_22 hsh) (q_22_0 hsh) ?_
        refine P_getr (pc' := 31) dX2_levelHere_28 rfl fl_X2_84 rfl (l_23 hsh) (t_23 hsh) (q_23_0 hsh) ?_
        refine P_aload0 (pc' := 32) dX2_levelHere_31 rfl ?_
        refine P_geti (pc' := 35) dX2_levelHere_32 rfl fl_X2_22 rfl (l_22 hsh) (t_22 hsh) ?_
        refine P_as h2 ?_
        refine P_bald (pc' := 36) dX2_levelHere_35 rfl (l_24 hsh) (t_24 hsh) (j := s.1.2.1) rfl (by omega) (by decide) ?_
        refine P_as e23 ?_
        refine P_look (tgt := 130) dX2_levelHere_36 (by decide) (by rw [lv_osw z1 (by decide), lv_osw z7 (by decide), lv_osw z5 (by decide), lv_osw z6 (by decide), lv_osw z8 (by decide), lv_osw z2 (by decide), lv_osw z3 (by decide), lv_osw z4 (by decide), lv_osw z0 (by decide)]) rfl ?_
        refine P_iconst (pc' := 131) dX2_levelHere_130 rfl (v := (-1)) rfl ?_
        refine P_iret dX2_levelHere_131 ?_
        exact ⟨rfl, rfl, rfl⟩
      · exact absurd (nI_lt (by omega) (by omega)) h19
  · have e0 : lvH b s.1 = none := if_neg q
    rw [e0]
    refine P_aload0 (pc' := 1) dX2_levelHere_0 rfl ?_
    refine P_geti (pc' := 4) dX2_levelHere_1 rfl fl_X2_18 rfl (l_22 hsh) (t_22 hsh) ?_
    refine P_as h1 ?_
    refine P_iconst (pc' := 5) dX2_levelHere_4 rfl (v := 3) rfl ?_
    refine P_icmp_ne (tgt := 22) (pc' := 8) dX2_levelHere_5 rfl rfl (fun h5 => ?_) (fun h5 => ?_)
    · refine P_iconst (pc' := 23) dX2_levelHere_22 rfl (v := (-1)) rfl ?_
      refine P_iret dX2_levelHere_23 ?_
      exact ⟨rfl, rfl, rfl⟩
    · exact absurd ((nI_eq (b := 3) (by omega) (by decide)).mp h5) q
theorem RdI.st {b : Nat → Int32} {n : Nat} {ky v : Int32} {s : RS} {I J : Mem} (h : RdI b n ky s I) (hl : s.2.2.1.length < 96) (j7 : J 22 7 = nI (s.2.2.1.length + 1)) (j25 : ∀ k, J 25 k = if k = s.2.2.1.length then v else I 25 k) (hk : ∀ k, k ≠ 7 → J 22 k = I 22 k) (ho : ∀ y, y ≠ 22 → y ≠ 25 → J y = I y) : RdI b n ky (as1 v s) J := by
  obtain ⟨⟨⟨a1, a2⟩, a3, a4, ⟨a5, a6⟩, a7, a8, a9⟩, ⟨c1, c2, c3⟩, hw⟩ := h
  rw [as1_lt hl]
  refine ⟨⟨⟨by rw [ho 23 (by decide) (by decide)]; exact a1, by rw [ho 24 (by decide) (by decide)]; exact a2⟩, by rw [hk 4 (by decide)]; exact a3, by rw [hk 5 (by decide)]; exact a4, ⟨?_, fun k hk' => ?_⟩, by rw [hk 8 (by decide)]; exact a7, ?_, a9⟩, ⟨by rw [hk 1 (by decide)]; exact c1, by rw [hk 2 (by decide)]; exact c2, by rw [hk 3 (by decide)]; exact c3⟩, hw⟩
  · show J 22 7 = nI (s.2.2.1 ++ [v]).length
    rw [List.length_append]; exact j7
  · have hk' : k < (s.2.2.1 ++ [v]).length := hk'
    rw [List.length_append] at hk'
    have hk' : k < s.2.2.1.length + 1 := hk'
    show J 25 k = (s.2.2.1 ++ [v]).getD k 0
    rw [j25 k]
    by_cases q : k = s.2.2.1.length
    · rw [if_pos q, q, List.getD_eq_getElem?_getD, List.getElem?_append_right (Nat.le_refl _), Nat.sub_self]; rfl
    · rw [if_neg q, a6 k (by omega), List.getD_eq_getElem?_getD, List.getD_eq_getElem?_getD, List.getElem?_append_left (by omega)]
  · show (s.2.2.1 ++ [v]).length ≤ 96
    rw [List.length_append]
    show s.2.2.1.length + 1 ≤ 96
    omega
theorem c_X2_addStep {G : GX} {S : Shp} {I : Mem} {b : Nat → Int32} {d n : Nat} {ky v : Int32} {s : RS} (hsh : SHP S) (h : RdI b n ky s I) : PM G yX2_addStep cX2_addStep 2 none d 0 0 [.ref 22, .int v] S I (fun r S' J => r = none ∧ S = S' ∧ RdI b n ky (as1 v s) J ∧ FrT I J) := by
  have h7 := h.1.2.2.2.1.1
  have l96 := h.1.2.2.2.2.2.1
  refine PM.of (ls := [some (.ref 22), some (.int v)]) (by decide) rfl (Nat.le_of_ble_eq_true rfl) rfl ?_
  show PW G RX2 "addStep" _ _ _ _ _ _ _ _ _ _ _ _
  by_cases q : s.2.2.1.length < 96
  · skip
    refine P_aload0 (pc' := 1) dX2_addStep_0 rfl ?_
    refine P_geti (pc' := 4) dX2_addStep_1 rfl fl_X2_38 rfl (l_22 hsh) (t_22 hsh) ?_
    refine P_as h7 ?_
    refine P_aload0 (pc' := 5) dX2_addStep_4 rfl ?_
    refine P_getr (pc' := 8) dX2_addStep_5 rfl fl_X2_34 rfl (l_22 hsh) (t_22 hsh) (q_22_6 hsh) ?_
    refine P_alen (pc' := 9) dX2_addStep_8 rfl (l_25 hsh) (t_25 hsh) (by decide) (by decide) ?_
    refine P_icmp_ge (tgt := 32) (pc' := 12) dX2_addStep_9 rfl rfl (fun h9 => ?_) (fun h9 => ?_)
    · exact absurd h9 (nI_ge (b := 96) q (by decide))
    · refine P_aload0 (pc' := 13) dX2_addStep_12 rfl ?_
      refine P_getr (pc' := 16) dX2_addStep_13 rfl fl_X2_34 rfl (l_22 hsh) (t_22 hsh) (q_22_6 hsh) ?_
      refine P_aload0 (pc' := 17) dX2_addStep_16 rfl ?_
      refine P_geti (pc' := 20) dX2_addStep_17 rfl fl_X2_38 rfl (l_22 hsh) (t_22 hsh) ?_
      refine P_as h7 ?_
      refine P_iload1 (pc' := 21) dX2_addStep_20 rfl ?_
      refine P_iast (pc' := 22) dX2_addStep_21 rfl (l_25 hsh) (t_25 hsh) (j := s.2.2.1.length) rfl q (by decide) ?_
      refine P_aload0 (pc' := 23) dX2_addStep_22 rfl ?_
      refine P_dup (pc' := 24) dX2_addStep_23 rfl rfl ?_
      refine P_geti (pc' := 27) dX2_addStep_24 rfl fl_X2_38 rfl (l_22 hsh) (t_22 hsh) ?_
      refine P_as (y := nI s.2.2.1.length) (by rw [u2_a (by decide)]; exact h7) ?_
      refine P_iconst (pc' := 28) dX2_addStep_27 rfl (v := 1) rfl ?_
      refine P_iadd (pc' := 29) dX2_addStep_28 rfl ?_
      refine P_as (nI_1 _) ?_
      refine P_puti (pc' := 32) dX2_addStep_29 rfl fl_X2_38 rfl (l_22 hsh) (t_22 hsh) ?_
      refine P_vret dX2_addStep_32 ?_
      refine ⟨rfl, rfl, h.st q (u2_s _ _ _ _) (fun k => ?_) (fun k hk => ?_) (fun y h1 h2 => ?_), fun x h1 h2 => ?_⟩
      · rw [u2_a (by decide)]
        by_cases z : k = s.2.2.1.length
        · rw [if_pos z, z, u2_s]
        · rw [if_neg z, u2_k z]
      · rw [u2_k hk, u2_a (by decide)]
      · rw [u2_row h1, u2_row h2]
      · rw [u2_row h1, u2_row h2]
  · have e : as1 v s = s := by unfold as1; rw [if_neg q]
    rw [e]
    refine P_aload0 (pc' := 1) dX2_addStep_0 rfl ?_
    refine P_geti (pc' := 4) dX2_addStep_1 rfl fl_X2_38 rfl (l_22 hsh) (t_22 hsh) ?_
    refine P_as h7 ?_
    refine P_aload0 (pc' := 5) dX2_addStep_4 rfl ?_
    refine P_getr (pc' := 8) dX2_addStep_5 rfl fl_X2_34 rfl (l_22 hsh) (t_22 hsh) (q_22_6 hsh) ?_
    refine P_alen (pc' := 9) dX2_addStep_8 rfl (l_25 hsh) (t_25 hsh) (by decide) (by decide) ?_
    refine P_icmp_ge (tgt := 32) (pc' := 12) dX2_addStep_9 rfl rfl (fun h9 => ?_) (fun h9 => ?_)
    · refine P_vret dX2_addStep_32 ?_
      exact ⟨rfl, rfl, h, FrT.rf⟩
    · exact absurd (nI_le (a := 96) (by omega) (by omega)) h9
theorem c_X2_readOperand {G : GX} {S : Shp} {I : Mem} {b : Nat → Int32} {d n : Nat} {ky v : Int32} {s : RS} (hsh : SHP S) (hn : n ≤ 96) (h : RdI b n ky s I) (hd : 3 ≤ d) : PM G yX2_readOperand cX2_readOperand 2 none d 0 0 [.ref 22, .int v] S I (fun r S' J => r = none ∧ S = S' ∧ RdI b n ky (opd b n v s) J ∧ FrT I J) := by
  refine PM.of (ls := [some (.ref 22), some (.int v)]) (by decide) rfl (Nat.le_of_ble_eq_true rfl) rfl ?_
  show PW G RX2 "readOperand" _ _ _ _ _ _ _ _ _ _ _ _
  refine P_aload0 (pc' := 1) dX2_readOperand_0 rfl ?_
  refine P_iload1 (pc' := 2) dX2_readOperand_1 rfl ?_
  refine P_callV1 (pc' := 5) dX2_readOperand_2 rfl lk_X2_115 (l_22 hsh) (t_22 hsh) (c_X2_addStep (d := 1) hsh h) (by omega) (Nat.le_of_ble_eq_true rfl) (fun r S2 I2 hq => ?_)
  obtain ⟨rfl, rfl, h2, f2⟩ := hq
  refine P_aload0 (pc' := 6) dX2_readOperand_5 rfl ?_
  refine P_dup (pc' := 7) dX2_readOperand_6 rfl rfl ?_
  refine P_geti (pc' := 10) dX2_readOperand_7 rfl fl_X2_41 rfl (l_22 hsh) (t_22 hsh) ?_
  refine P_as h2.1.2.2.2.2.1 ?_
  refine P_iconst (pc' := 11) dX2_readOperand_10 rfl (v := 1) rfl ?_
  refine P_iadd (pc' := 12) dX2_readOperand_11 rfl ?_
  refine P_as (nI_1 _) ?_
  refine P_puti (pc' := 15) dX2_readOperand_12 rfl fl_X2_41 rfl (l_22 hsh) (t_22 hsh) ?_
  refine P_aload0 (pc' := 16) dX2_readOperand_15 rfl ?_
  refine P_callV0 (pc' := 19) dX2_readOperand_16 rfl lk_X2_44 (l_22 hsh) (t_22 hsh) (c_X2_advance (d := 2) (b := b) (n := n) (ky := ky) (t := (s.2.1, (as1 v s).2.2.1, s.2.2.2 + 1)) hsh hn (by
    obtain ⟨⟨⟨a1, a2⟩, a3, a4, ⟨a5, a6⟩, a7, a8, a9⟩, -⟩ := h2
    exact ⟨⟨by rw [u2_a (by decide)]; exact a1, by rw [u2_row (by decide)]; exact a2⟩, by rw [u2_k (by decide)]; exact a3, by rw [u2_k (by decide)]; exact a4, ⟨by rw [u2_k (by decide)]; exact a5, fun k hk => by rw [u2_a (by decide)]; exact a6 k hk⟩, u2_s _ _ _ _, a8, a9⟩) (by rw [u2_k (by decide)]; exact h2.2.1.1) h2.2.2.1 (by rw [u2_k (by decide)]; exact h2.2.1.2.2) h2.2.2.2.2.1 (by omega)) (by omega) (Nat.le_of_ble_eq_true rfl) (fun r S3 I3 hq => ?_)
  obtain ⟨rfl, rfl, h3, f3⟩ := hq
  refine P_vret dX2_readOperand_19 ?_
  exact ⟨rfl, rfl, h3, fun x h1 h2 => by rw [f3 x h1, u2_row h1]; exact f2 x h1 h2⟩
theorem lp_X2_num {G : GX} {S : Shp} {I : Mem} {b : Nat → Int32} {d n e : Nat} {v : Int32} (hsh : SHP S) (hn : n ≤ 96) (h22 : I 23 1 = nI n) (hbt : I 24 = b) (h3 : I 22 3 = nI e) (he : e ≤ n) : ∀ (k p : Nat) (y : Int32), p + k = e → nmb b k p y = v → PW G RX2 "numberHere" cX2_numberHere 3 (some .int) d 0 0 (Rm S I v) 7 [some (.ref 22), some (.int y), some (.int (nI p))] [] S I := by
  intro k
  induction k with
  | zero =>
    intro p y hp hv
    have hv : y = v := hv
    refine P_iload2 (pc' := 8) dX2_numberHere_7 rfl ?_
    refine P_aload0 (pc' := 9) dX2_numberHere_8 rfl ?_
    refine P_geti (pc' := 12) dX2_numberHere_9 rfl fl_X2_25 rfl (l_22 hsh) (t_22 hsh) ?_
    refine P_as h3 ?_
    refine P_icmp_ge (tgt := 50) (pc' := 15) dX2_numberHere_12 rfl rfl (fun h12 => ?_) (fun h12 => ?_)
    · refine P_iload1 (pc' := 51) dX2_numberHere_50 rfl ?_
      refine P_iret dX2_numberHere_51 ?_
      exact ⟨by rw [hv], rfl, rfl⟩
    · exact absurd (nI_le (by omega) (by omega)) h12
  | succ k ih =>
    intro p y hp hv
    rw [nmb_s] at hv
    refine P_iload2 (pc' := 8) dX2_numberHere_7 rfl ?_
    refine P_aload0 (pc' := 9) dX2_numberHere_8 rfl ?_
    refine P_geti (pc' := 12) dX2_numberHere_9 rfl fl_X2_25 rfl (l_22 hsh) (t_22 hsh) ?_
    refine P_as h3 ?_
    refine P_icmp_ge (tgt := 50) (pc' := 15) dX2_numberHere_12 rfl rfl (fun h12 => ?_) (fun h12 => ?_)
    · exact absurd h12 (nI_ge (by omega) (by omega))
    · refine P_iload2 (pc' := 16) dX2_numberHere_15 rfl ?_
      refine P_aload0 (pc' := 17) dX2_numberHere_16 rfl ?_
      refine P_getr (pc' := 20) dX2_numberHere_17 rfl fl_X2_12 rfl (l_22 hsh) (t_22 hsh) (q_22_0 hsh) ?_
      refine P_geti (pc' := 23) dX2_numberHere_20 rfl fl_X2_81 rfl (l_23 hsh) (t_23 hsh) ?_
      refine P_as h22 ?_
      refine P_icmp_ge (tgt := 50) (pc' := 26) dX2_numberHere_23 rfl rfl (fun h23 => ?_) (fun h23 => ?_)
      · exact absurd h23 (nI_ge (by omega) (by omega))
      · refine P_iload1 (pc' := 27) dX2_numberHere_26 rfl ?_
        refine P_bipush (pc' := 29) dX2_numberHere_27 rfl (v := 10) rfl ?_
        refine P_imul (pc' := 30) dX2_numberHere_29 rfl ?_
        refine P_aload0 (pc' := 31) dX2_numberHere_30 rfl ?_
        refine P_getr (pc' := 34) dX2_numberHere_31 rfl fl_X2_12 rfl (l_22 hsh) (t_22 hsh) (q_22_0 hsh) ?_
        refine P_getr (pc' := 37) dX2_numberHere_34 rfl fl_X2_84 rfl (l_23 hsh) (t_23 hsh) (q_23_0 hsh) ?_
        refine P_iload2 (pc' := 38) dX2_numberHere_37 rfl ?_
        refine P_bald (pc' := 39) dX2_numberHere_38 rfl (l_24 hsh) (t_24 hsh) (j := p) rfl (by omega) (by decide) ?_
        rw [hbt]
        refine P_bipush (pc' := 41) dX2_numberHere_39 rfl (v := 48) rfl ?_
        refine P_isub (pc' := 42) dX2_numberHere_41 rfl ?_
        refine P_iadd (pc' := 43) dX2_numberHere_42 rfl ?_
        refine P_istore1 (pc' := 44) dX2_numberHere_43 rfl (by decide) rfl ?_
        refine P_iinc2 (pc' := 47) dX2_numberHere_44 rfl (nI_1 p) (by decide) rfl ?_
        refine P_goto (tgt := 7) dX2_numberHere_47 rfl ?_
        exact ih (p + 1) _ (by omega) hv
theorem c_X2_numberHere {G : GX} {S : Shp} {I : Mem} {b : Nat → Int32} {d n : Nat} {ky : Int32} {s : RS} (hsh : SHP S) (hn : n ≤ 96) (h : RdI b n ky s I) (hlt : s.1.2.1 ≤ s.1.2.2) : PM G yX2_numberHere cX2_numberHere 3 (some .int) d 0 0 [.ref 22] S I (Rm S I (nmb b (s.1.2.2 - s.1.2.1) s.1.2.1 0)) := by
  obtain ⟨⟨⟨h22, h23⟩, -⟩, ⟨h1, h2, h3⟩, hw⟩ := h
  refine PM.of (ls := [some (.ref 22), none, none]) (by decide) rfl (Nat.le_of_ble_eq_true rfl) rfl ?_
  show PW G RX2 "numberHere" _ _ _ _ _ _ _ _ _ _ _ _
  refine P_iconst (pc' := 1) dX2_numberHere_0 rfl (v := 0) rfl ?_
  refine P_istore1 (pc' := 2) dX2_numberHere_1 rfl (by decide) rfl ?_
  refine P_aload0 (pc' := 3) dX2_numberHere_2 rfl ?_
  refine P_geti (pc' := 6) dX2_numberHere_3 rfl fl_X2_22 rfl (l_22 hsh) (t_22 hsh) ?_
  refine P_as h2 ?_
  refine P_istore2 (pc' := 7) dX2_numberHere_6 rfl (by decide) rfl ?_
  exact lp_X2_num hsh hn h22 h23 h3 hw.2.2.1 (s.1.2.2 - s.1.2.1) s.1.2.1 0 (by omega) rfl
theorem ix_nm {k : Nat} (hk : k ≤ 2) (v : Int32) : ixV (3 + k) v (stL (3 + k)) 0 = lvV (nmO k v) := by
  have key : k = 0 ∨ k = 1 ∨ k = 2 := by omega
  rcases key with rfl | rfl | rfl
  · show ixV 3 v 3 0 = lvV (if v = 99 then some 0 else if v = 103 then some 1 else if v = 115 then some 2 else none)
    rw [ixV_s, ixV_s, ixV_s]
    show (if (99 : Int32) = v then nI 0 else if (103 : Int32) = v then nI 1 else if (115 : Int32) = v then nI 2 else -1) = _
    by_cases h1 : v = 99
    · rw [if_pos h1, if_pos h1.symm]; rfl
    · rw [if_neg h1, if_neg (fun z => h1 z.symm)]
      by_cases h2 : v = 103
      · rw [if_pos h2, if_pos h2.symm]; rfl
      · rw [if_neg h2, if_neg (fun z => h2 z.symm)]
        by_cases h3 : v = 115
        · rw [if_pos h3, if_pos h3.symm]; rfl
        · rw [if_neg h3, if_neg (fun z => h3 z.symm)]; rfl
  · show ixV 4 v 2 0 = lvV (if v = 99 then some 0 else if v = 104 then some 1 else none)
    rw [ixV_s, ixV_s]
    show (if (99 : Int32) = v then nI 0 else if (104 : Int32) = v then nI 1 else -1) = _
    by_cases h1 : v = 99
    · rw [if_pos h1, if_pos h1.symm]; rfl
    · rw [if_neg h1, if_neg (fun z => h1 z.symm)]
      by_cases h2 : v = 104
      · rw [if_pos h2, if_pos h2.symm]; rfl
      · rw [if_neg h2, if_neg (fun z => h2 z.symm)]; rfl
  · show ixV 5 v 2 0 = lvV (if v = 112 then some 0 else if v = 104 then some 1 else none)
    rw [ixV_s, ixV_s]
    show (if (112 : Int32) = v then nI 0 else if (104 : Int32) = v then nI 1 else -1) = _
    by_cases h1 : v = 112
    · rw [if_pos h1, if_pos h1.symm]; rfl
    · rw [if_neg h1, if_neg (fun z => h1 z.symm)]
      by_cases h2 : v = 104
      · rw [if_pos h2, if_pos h2.symm]; rfl
      · rw [if_neg h2, if_neg (fun z => h2 z.symm)]; rfl
theorem let_n {v : Int32} (h : 97 ≤ v ∧ v ≤ 122) : ∃ c, c < 128 ∧ v = nI c := by
  have e1 : (97 : Int32).toInt = 97 := by decide
  have e2 : (122 : Int32).toInt = 122 := by decide
  have h1 := Int32.le_iff_toInt_le.mp h.1
  have h2 := Int32.le_iff_toInt_le.mp h.2
  rw [e1] at h1
  rw [e2] at h2
  exact ⟨v.toInt.toNat, by omega, toI_inj (by omega) (by omega)⟩
theorem i2c_n {c : Nat} (h : c < 128) : ((nI c).toUInt32 % 65536).toInt32 = nI c := by
  have key : ∀ c, c < 128 → ((nI c).toUInt32 % 65536).toInt32 = nI c := by decide +kernel
  exact key c h
theorem c_X2_nameHere {G : GX} {S : Shp} {I : Mem} {b : Nat → Int32} {d n k : Nat} {s : RS} (hsh : SHP S) (hn : n ≤ 96) (hk : k ≤ 2) (h : RdI b n (nI k) s I) (h1 : s.1.1 = 1) (hd : 4 ≤ d) : PM G yX2_nameHere cX2_nameHere 1 (some .int) d 0 0 [.ref 22] S I (Rm S I (if s.1.2.2 - s.1.2.1 = 1 then lvV (nmO k (b s.1.2.1)) else -1)) := by
  obtain ⟨⟨⟨h22, h23⟩, -, h5, -⟩, ⟨-, h2, h3⟩, hw⟩ := h
  have lt := hw.2.2.2.1 (Or.inl h1)
  have w3 := hw.2.2.1
  obtain ⟨c, hc, ec⟩ := let_n (hw.2.2.2.2.2 h1)
  have es : nI s.1.2.2 - nI s.1.2.1 = nI (s.1.2.2 - s.1.2.1) := pk_sub (by omega)
  refine PM.of (ls := [some (.ref 22)]) (by decide) rfl (Nat.le_of_ble_eq_true rfl) rfl ?_
  show PW G RX2 "nameHere" _ _ _ _ _ _ _ _ _ _ _ _
  by_cases q : s.1.2.2 - s.1.2.1 = 1
  · rw [if_pos q, ec]
    refine P_aload0 (pc' := 1) dX2_nameHere_0 rfl ?_
    refine P_geti (pc' := 4) dX2_nameHere_1 rfl fl_X2_25 rfl (l_22 hsh) (t_22 hsh) ?_
    refine P_as h3 ?_
    refine P_aload0 (pc' := 5) dX2_nameHere_4 rfl ?_
    refine P_geti (pc' := 8) dX2_nameHere_5 rfl fl_X2_22 rfl (l_22 hsh) (t_22 hsh) ?_
    refine P_as h2 ?_
    refine P_isub (pc' := 9) dX2_nameHere_8 rfl ?_
    refine P_as (es.trans (by rw [q])) ?_
    refine P_iconst (pc' := 10) dX2_nameHere_9 rfl (v := 1) rfl ?_
    refine P_icmp_ne (tgt := 27) (pc' := 13) dX2_nameHere_10 rfl rfl (fun h10 => ?_) (fun h10 => ?_)
    · exact absurd rfl h10
    · refine P_aload0 (pc' := 14) dX2_nameHere_13 rfl ?_
      refine P_geti (pc' := 17) dX2_nameHere_14 rfl fl_X2_22 rfl (l_22 hsh) (t_22 hsh) ?_
      refine P_as h2 ?_
      refine P_aload0 (pc' := 18) dX2_nameHere_17 rfl ?_
      refine P_getr (pc' := 21) dX2_nameHere_18 rfl fl_X2_12 rfl (l_22 hsh) (t_22 hsh) (q_22_0 hsh) ?_
      refine P_geti (pc' := 24) dX2_nameHere_21 rfl fl_X2_81 rfl (l_23 hsh) (t_23 hsh) ?_
      refine P_as h22 ?_
      refine P_icmp_lt (tgt := 29) (pc' := 27) dX2_nameHere_24 rfl rfl (fun h24 => ?_) (fun h24 => ?_)
      · refine P_aload0 (pc' := 30) dX2_nameHere_29 rfl ?_
        refine P_geti (pc' := 33) dX2_nameHere_30 rfl fl_X2_31 rfl (l_22 hsh) (t_22 hsh) ?_
        refine P_as h5 ?_
        refine P_callS1 (pc' := 36) dX2_nameHere_33 rfl lk_X2_132 (c_X2_namesOf (d := 0) hk) (by omega) (Nat.le_of_ble_eq_true rfl) (fun r S' I' hq => ?_)
        obtain ⟨rfl, rfl, rfl⟩ := hq
        refine P_aload0 (pc' := 37) dX2_nameHere_36 rfl ?_
        refine P_getr (pc' := 40) dX2_nameHere_37 rfl fl_X2_12 rfl (l_22 hsh) (t_22 hsh) (q_22_0 hsh) ?_
        refine P_getr (pc' := 43) dX2_nameHere_40 rfl fl_X2_84 rfl (l_23 hsh) (t_23 hsh) (q_23_0 hsh) ?_
        refine P_aload0 (pc' := 44) dX2_nameHere_43 rfl ?_
        refine P_geti (pc' := 47) dX2_nameHere_44 rfl fl_X2_22 rfl (l_22 hsh) (t_22 hsh) ?_
        refine P_as h2 ?_
        refine P_bald (pc' := 48) dX2_nameHere_47 rfl (l_24 hsh) (t_24 hsh) (j := s.1.2.1) rfl (by omega) (by decide) ?_
        rw [h23, ec]
        refine P_i2c (pc' := 49) dX2_nameHere_48 rfl ?_
        refine P_as (i2c_n hc) ?_
        refine P_callX (pc' := 52) (as := [.int (nI c)]) dX2_nameHere_49 rfl lk_X2_135 (by omega) (c_J_io1 (d := 3) (i := 3 + k) (by omega) hc (by omega)) rfl (by omega) rfl (Nat.le_of_ble_eq_true rfl) (fun r S' I' hq => ?_); obtain ⟨rfl, rfl, rfl⟩ := hq
        refine P_iret dX2_nameHere_52 ?_
        exact ⟨by rw [ix_nm hk], rfl, rfl⟩
      · exact absurd (nI_lt (by omega) (by omega)) h24
  · rw [if_neg q]
    refine P_aload0 (pc' := 1) dX2_nameHere_0 rfl ?_
    refine P_geti (pc' := 4) dX2_nameHere_1 rfl fl_X2_25 rfl (l_22 hsh) (t_22 hsh) ?_
    refine P_as h3 ?_
    refine P_aload0 (pc' := 5) dX2_nameHere_4 rfl ?_
    refine P_geti (pc' := 8) dX2_nameHere_5 rfl fl_X2_22 rfl (l_22 hsh) (t_22 hsh) ?_
    refine P_as h2 ?_
    refine P_isub (pc' := 9) dX2_nameHere_8 rfl ?_
    refine P_as es ?_
    refine P_iconst (pc' := 10) dX2_nameHere_9 rfl (v := 1) rfl ?_
    refine P_icmp_ne (tgt := 27) (pc' := 13) dX2_nameHere_10 rfl rfl (fun h10 => ?_) (fun h10 => ?_)
    · refine P_iconst (pc' := 28) dX2_nameHere_27 rfl (v := (-1)) rfl ?_
      refine P_iret dX2_nameHere_28 ?_
      exact ⟨rfl, rfl, rfl⟩
    · exact absurd ((nI_eq (b := 1) (by omega) (by decide)).mp h10) q
/-! keys -/
def hrV (b : Nat → Int32) (p i : Nat) : Nat → Nat → Int32
  | 0, _ => 1
  | k + 1, j => if b (p + j) = stB i j then hrV b p i k (j + 1) else 0
theorem hrV_s (b : Nat → Int32) (p i k j : Nat) : hrV b p i (k + 1) j = if b (p + j) = stB i j then hrV b p i k (j + 1) else 0 := rfl
def wdV (b : Nat → Int32) (x : Lx) (i : Nat) : Int32 := if x.2.2 - x.2.1 = stL i then hrV b x.2.1 i (stL i) 0 else 0
theorem lp_X2_isHere {G : GX} {S : Shp} {I : Mem} {b : Nat → Int32} {d n p i : Nat} {v : Int32} (hsh : SHP S) (hG : (gFm G).category = 1) (hn : n ≤ 96) (h23 : I 24 = b) (h2 : I 22 2 = nI p) (hi : i < 6) (hp : p + stL i ≤ n) (hd : 4 ≤ d) : ∀ (k j : Nat), j + k = stL i → hrV b p i k j = v → PW G RX2 "isHere" cX2_isHere 3 (some .boolean) d 0 0 (Rm S I v) 20 [some (.ref 22), some (.ref (1000002 + i)), some (.int (nI j))] [] S I := by
  have h4 := stL_4 hi
  intro k
  induction k with
  | zero =>
    intro j hj hv
    have hv : (1 : Int32) = v := hv
    refine P_iload2 (pc' := 21) dX2_isHere_20 rfl ?_
    refine P_aload1 (pc' := 22) dX2_isHere_21 rfl ?_
    refine P_callX (pc' := 25) (as := []) dX2_isHere_22 rfl lk_X2_100 hi (c_J_length (d := 1) hi (by omega)) rfl (by omega) rfl (Nat.le_of_ble_eq_true rfl) (fun r S' I' hq => ?_); obtain ⟨rfl, rfl, rfl⟩ := hq
    refine P_icmp_ge (tgt := 58) (pc' := 28) dX2_isHere_25 rfl rfl (fun h25 => ?_) (fun h25 => ?_)
    · refine P_iconst (pc' := 59) dX2_isHere_58 rfl (v := 1) rfl ?_
      refine P_zret dX2_isHere_59 (by first | exact Or.inl rfl | exact Or.inr rfl) ?_
      exact ⟨by rw [← hv], rfl, rfl⟩
    · exact absurd (nI_le (by omega) (by omega)) h25
  | succ k ih =>
    intro j hj hv
    rw [hrV_s] at hv
    refine P_iload2 (pc' := 21) dX2_isHere_20 rfl ?_
    refine P_aload1 (pc' := 22) dX2_isHere_21 rfl ?_
    refine P_callX (pc' := 25) (as := []) dX2_isHere_22 rfl lk_X2_100 hi (c_J_length (d := 1) hi (by omega)) rfl (by omega) rfl (Nat.le_of_ble_eq_true rfl) (fun r S' I' hq => ?_); obtain ⟨rfl, rfl, rfl⟩ := hq
    refine P_icmp_ge (tgt := 58) (pc' := 28) dX2_isHere_25 rfl rfl (fun h25 => ?_) (fun h25 => ?_)
    · exact absurd h25 (nI_ge (by omega) (by omega))
    · refine P_aload0 (pc' := 29) dX2_isHere_28 rfl ?_
      refine P_getr (pc' := 32) dX2_isHere_29 rfl fl_X2_12 rfl (l_22 hsh) (t_22 hsh) (q_22_0 hsh) ?_
      refine P_getr (pc' := 35) dX2_isHere_32 rfl fl_X2_84 rfl (l_23 hsh) (t_23 hsh) (q_23_0 hsh) ?_
      refine P_aload0 (pc' := 36) dX2_isHere_35 rfl ?_
      refine P_geti (pc' := 39) dX2_isHere_36 rfl fl_X2_22 rfl (l_22 hsh) (t_22 hsh) ?_
      refine P_as h2 ?_
      refine P_iload2 (pc' := 40) dX2_isHere_39 rfl ?_
      refine P_iadd (pc' := 41) dX2_isHere_40 rfl ?_
      refine P_as (nI_add _ _) ?_
      refine P_bald (pc' := 42) dX2_isHere_41 rfl (l_24 hsh) (t_24 hsh) (j := p + j) rfl (by omega) (by decide) ?_
      rw [h23]
      refine P_aload1 (pc' := 43) dX2_isHere_42 rfl ?_
      refine P_iload2 (pc' := 44) dX2_isHere_43 rfl ?_
      refine P_callX (pc' := 47) (as := [.int (nI j)]) dX2_isHere_44 rfl lk_X2_104 hi (c_J_charAt (d := 3) hG hi (by omega) (by omega)) rfl (by omega) rfl (Nat.le_of_ble_eq_true rfl) (fun r S' I' hq => ?_); obtain ⟨rfl, rfl, rfl⟩ := hq
      refine P_icmp_eq (tgt := 52) (pc' := 50) dX2_isHere_47 rfl rfl (fun h47 => ?_) (fun h47 => ?_)
      · refine P_iinc2 (pc' := 55) dX2_isHere_52 rfl (nI_1 j) (by decide) rfl ?_
        refine P_goto (tgt := 20) dX2_isHere_55 rfl ?_
        rw [if_pos h47] at hv
        exact ih (j + 1) (by omega) hv
      · refine P_iconst (pc' := 51) dX2_isHere_50 rfl (v := 0) rfl ?_
        refine P_zret dX2_isHere_51 (by first | exact Or.inl rfl | exact Or.inr rfl) ?_
        rw [if_neg h47] at hv
        exact ⟨by rw [← hv], rfl, rfl⟩
theorem c_X2_isHere {G : GX} {S : Shp} {I : Mem} {b : Nat → Int32} {d n i : Nat} {x : Lx} (hsh : SHP S) (hG : (gFm G).category = 1) (hn : n ≤ 96) (h23 : I 24 = b) (h2 : I 22 2 = nI x.2.1) (h3 : I 22 3 = nI x.2.2) (hx : x.2.1 ≤ x.2.2) (hx2 : x.2.2 ≤ n) (hi : i < 6) (hd : 4 ≤ d) : PM G yX2_isHere cX2_isHere 3 (some .boolean) d 0 0 [.ref 22, .ref (1000002 + i)] S I (Rm S I (wdV b x i)) := by
  have h4 := stL_4 hi
  have es : nI x.2.2 - nI x.2.1 = nI (x.2.2 - x.2.1) := pk_sub (by omega)
  refine PM.of (ls := [some (.ref 22), some (.ref (1000002 + i)), none]) (by decide) rfl (Nat.le_of_ble_eq_true rfl) rfl ?_
  show PW G RX2 "isHere" _ _ _ _ _ _ _ _ _ _ _ _
  unfold wdV
  refine P_aload0 (pc' := 1) dX2_isHere_0 rfl ?_
  refine P_geti (pc' := 4) dX2_isHere_1 rfl fl_X2_25 rfl (l_22 hsh) (t_22 hsh) ?_
  refine P_as h3 ?_
  refine P_aload0 (pc' := 5) dX2_isHere_4 rfl ?_
  refine P_geti (pc' := 8) dX2_isHere_5 rfl fl_X2_22 rfl (l_22 hsh) (t_22 hsh) ?_
  refine P_as h2 ?_
  refine P_isub (pc' := 9) dX2_isHere_8 rfl ?_
  refine P_as es ?_
  refine P_aload1 (pc' := 10) dX2_isHere_9 rfl ?_
  refine P_callX (pc' := 13) (as := []) dX2_isHere_10 rfl lk_X2_100 hi (c_J_length (d := 1) hi (by omega)) rfl (by omega) rfl (Nat.le_of_ble_eq_true rfl) (fun r S' I' hq => ?_); obtain ⟨rfl, rfl, rfl⟩ := hq
  refine P_icmp_eq (tgt := 18) (pc' := 16) dX2_isHere_13 rfl rfl (fun h13 => ?_) (fun h13 => ?_)
  · refine P_iconst (pc' := 19) dX2_isHere_18 rfl (v := 0) rfl ?_
    refine P_istore2 (pc' := 20) dX2_isHere_19 rfl (by decide) rfl ?_
    have q := (nI_eq (by omega) (by omega)).mp h13
    rw [if_pos q]
    exact lp_X2_isHere hsh hG hn h23 h2 hi (by omega) hd (stL i) 0 (by omega) rfl
  · refine P_iconst (pc' := 17) dX2_isHere_16 rfl (v := 0) rfl ?_
    refine P_zret dX2_isHere_17 (by first | exact Or.inl rfl | exact Or.inr rfl) ?_
    rw [if_neg (fun z => h13 (by rw [z]))]
    exact ⟨rfl, rfl, rfl⟩
def kyF (b : Nat → Int32) (x : Lx) : Nat → Nat → Option Nat
  | 0, _ => none
  | k + 1, j => if wdV b x j = 0 then kyF b x k (j + 1) else some j
theorem kyF_s (b : Nat → Int32) (x : Lx) (k j : Nat) : kyF b x (k + 1) j = if wdV b x j = 0 then kyF b x k (j + 1) else some j := rfl
def kyO (b : Nat → Int32) (x : Lx) : Option Nat := if x.1 = 1 then kyF b x 3 0 else none
theorem lp_X2_keyHere {G : GX} {S : Shp} {I : Mem} {b : Nat → Int32} {d n : Nat} {x : Lx} {v : Int32} (hsh : SHP S) (hG : (gFm G).category = 1) (hn : n ≤ 96) (hbt : I 24 = b) (h1 : I 22 1 = nI x.1) (h2 : I 22 2 = nI x.2.1) (h3 : I 22 3 = nI x.2.2) (hw : WOk b n x) (hd : 5 ≤ d) : ∀ (k j : Nat), j + k = 3 → lvV (if x.1 = 1 then kyF b x k j else none) = v → PW G RX2 "keyHere" cX2_keyHere 2 (some .int) d 0 0 (Rm S I v) 2 [some (.ref 22), some (.int (nI j))] [] S I := by
  have w1 := hw.1
  have w3 := hw.2.2.1
  intro k
  induction k with
  | zero =>
    intro j hj hv
    have hv2 : (-1 : Int32) = v := by
      rw [← hv]
      split <;> rfl
    have hj : j = 3 := by omega
    subst hj
    refine P_iload1 (pc' := 3) dX2_keyHere_2 rfl ?_
    refine P_iconst (pc' := 4) dX2_keyHere_3 rfl (v := 2) rfl ?_
    refine P_icmp_gt (tgt := 34) (pc' := 7) dX2_keyHere_4 rfl rfl (fun h4 => ?_) (fun h4 => ?_)
    · refine P_iconst (pc' := 35) dX2_keyHere_34 rfl (v := (-1)) rfl ?_
      refine P_iret dX2_keyHere_35 ?_
      exact ⟨by rw [← hv2], rfl, rfl⟩
    · exact absurd (by decide) h4
  | succ k ih =>
    intro j hj hv
    by_cases q : x.1 = 1
    · have lt := hw.2.2.2.1 (Or.inl q)
      rw [if_pos q, kyF_s] at hv
      refine P_iload1 (pc' := 3) dX2_keyHere_2 rfl ?_
      refine P_iconst (pc' := 4) dX2_keyHere_3 rfl (v := 2) rfl ?_
      refine P_icmp_gt (tgt := 34) (pc' := 7) dX2_keyHere_4 rfl rfl (fun h4 => ?_) (fun h4 => ?_)
      · exact absurd h4 (Int32.not_lt.mpr (nI_le (a := j) (b := 2) (by omega) (by decide)))
      · refine P_aload0 (pc' := 8) dX2_keyHere_7 rfl ?_
        refine P_geti (pc' := 11) dX2_keyHere_8 rfl fl_X2_18 rfl (l_22 hsh) (t_22 hsh) ?_
        refine P_as (y := 1) (by rw [h1, q]; rfl) ?_
        refine P_iconst (pc' := 12) dX2_keyHere_11 rfl (v := 1) rfl ?_
        refine P_icmp_ne (tgt := 28) (pc' := 15) dX2_keyHere_12 rfl rfl (fun h12 => ?_) (fun h12 => ?_)
        · exact absurd rfl h12
        · refine P_aload0 (pc' := 16) dX2_keyHere_15 rfl ?_
          refine P_iload1 (pc' := 17) dX2_keyHere_16 rfl ?_
          refine P_callS1 (pc' := 20) dX2_keyHere_17 rfl lk_X2_92 (c_X2_wordOf (d := 0) (k := j) (by omega)) (by omega) (Nat.le_of_ble_eq_true rfl) (fun r S' I' hq => ?_)
          obtain ⟨rfl, rfl, rfl⟩ := hq
          refine P_callV1 (pc' := 23) dX2_keyHere_20 rfl lk_X2_96 (l_22 hsh) (t_22 hsh) (c_X2_isHere (d := 4) (b := b) (n := n) (x := x) (i := j) hsh hG hn hbt h2 h3 (by omega) w3 (by omega) (by omega)) (by omega) (Nat.le_of_ble_eq_true rfl) (fun r S' I' hq => ?_); obtain ⟨rfl, rfl, rfl⟩ := hq
          refine P_if_eq (tgt := 28) (pc' := 26) dX2_keyHere_23 rfl rfl (fun h23 => ?_) (fun h23 => ?_)
          · refine P_iinc1 (pc' := 31) dX2_keyHere_28 rfl (nI_1 j) (by decide) rfl ?_
            refine P_goto (tgt := 2) dX2_keyHere_31 rfl ?_
            rw [if_pos h23] at hv
            exact ih (j + 1) (by omega) (by rw [if_pos q]; exact hv)
          · refine P_iload1 (pc' := 27) dX2_keyHere_26 rfl ?_
            refine P_iret dX2_keyHere_27 ?_
            rw [if_neg h23] at hv
            exact ⟨by rw [← hv]; rfl, rfl, rfl⟩
    · rw [if_neg q] at hv
      refine P_iload1 (pc' := 3) dX2_keyHere_2 rfl ?_
      refine P_iconst (pc' := 4) dX2_keyHere_3 rfl (v := 2) rfl ?_
      refine P_icmp_gt (tgt := 34) (pc' := 7) dX2_keyHere_4 rfl rfl (fun h4 => ?_) (fun h4 => ?_)
      · exact absurd h4 (Int32.not_lt.mpr (nI_le (a := j) (b := 2) (by omega) (by decide)))
      · refine P_aload0 (pc' := 8) dX2_keyHere_7 rfl ?_
        refine P_geti (pc' := 11) dX2_keyHere_8 rfl fl_X2_18 rfl (l_22 hsh) (t_22 hsh) ?_
        refine P_as h1 ?_
        refine P_iconst (pc' := 12) dX2_keyHere_11 rfl (v := 1) rfl ?_
        refine P_icmp_ne (tgt := 28) (pc' := 15) dX2_keyHere_12 rfl rfl (fun h12 => ?_) (fun h12 => ?_)
        · refine P_iinc1 (pc' := 31) dX2_keyHere_28 rfl (nI_1 j) (by decide) rfl ?_
          refine P_goto (tgt := 2) dX2_keyHere_31 rfl ?_
          exact ih (j + 1) (by omega) (by rw [if_neg q]; exact hv)
        · exact absurd ((nI_eq (b := 1) (by omega) (by decide)).mp h12) q
theorem c_X2_keyHere {G : GX} {S : Shp} {I : Mem} {b : Nat → Int32} {d n : Nat} {ky : Int32} {s : RS} (hsh : SHP S) (hG : (gFm G).category = 1) (hn : n ≤ 96) (h : RdI b n ky s I) (hd : 5 ≤ d) : PM G yX2_keyHere cX2_keyHere 2 (some .int) d 0 0 [.ref 22] S I (Rm S I (lvV (kyO b s.1))) := by
  obtain ⟨⟨⟨h22, h23⟩, -⟩, ⟨h1, h2, h3⟩, hw⟩ := h
  refine PM.of (ls := [some (.ref 22), none]) (by decide) rfl (Nat.le_of_ble_eq_true rfl) rfl ?_
  show PW G RX2 "keyHere" _ _ _ _ _ _ _ _ _ _ _ _
  refine P_iconst (pc' := 1) dX2_keyHere_0 rfl (v := 0) rfl ?_
  refine P_istore1 (pc' := 2) dX2_keyHere_1 rfl (by decide) rfl ?_
  exact lp_X2_keyHere hsh hG hn h23 h1 h2 h3 hw hd 3 0 (by omega) rfl

