/-! choosing the best -/
def selS (f : Nat → Option Int32) (c : Nat) (q : Option (Nat × Int32)) : Option (Nat × Int32) := match f c with
  | none => q
  | some v => match q with
    | none => some (c, v)
    | some (b, m) => if m < v then some (c, v) else some (b, m)
def sel (f : Nat → Option Int32) : Nat → Nat → Option (Nat × Int32) → Option (Nat × Int32)
  | 0, _, q => q
  | k + 1, c, q => sel f k (c + 1) (selS f c q)
theorem sel_s (f : Nat → Option Int32) (k c : Nat) (q : Option (Nat × Int32)) : sel f (k + 1) c q = sel f k (c + 1) (selS f c q) := rfl
theorem selS_0 {f : Nat → Option Int32} {c : Nat} {v : Int32} (h : f c = some v) : selS f c none = some (c, v) := by unfold selS; rw [h]
theorem selS_n {f : Nat → Option Int32} {c : Nat} {q : Option (Nat × Int32)} (h : f c = none) : selS f c q = q := by unfold selS; rw [h]
theorem selS_t {f : Nat → Option Int32} {c b : Nat} {v m : Int32} (h : f c = some v) (hm : m < v) : selS f c (some (b, m)) = some (c, v) := by unfold selS; rw [h]; exact if_pos hm
theorem selS_k {f : Nat → Option Int32} {c b : Nat} {v m : Int32} (h : f c = some v) (hm : ¬ m < v) : selS f c (some (b, m)) = some (b, m) := by unfold selS; rw [h]; exact if_neg hm
def resV (y : Int32) (q : Option (Nat × Int32)) : Int32 := match q with
  | none => -1000000005
  | some (b, m) => if y = 0 then nI b else m
def bC (q : Option (Nat × Int32)) : Int32 := match q with
  | none => 0
  | some (b, _) => nI b
def mC (q : Option (Nat × Int32)) : Int32 := match q with
  | none => 0
  | some (_, m) => m
def bN (q : Option (Nat × Int32)) : Int32 := match q with
  | none => -1000000005
  | some (b, _) => nI b
theorem lp0_c {c : Nat} (h : c < 100) : nI c = 0 → c = 0 := fun z => (nI_eq (b := 0) (by omega) (by decide)).mp z
def vTks (al : Int32 → Int32 → Int32 → Int32) (A : Nat → Int32) (k c v : Int32) : Int32 := if wi k 0 5 = 0 then -1000000001 else if wi c 0 7 = 0 then -1000000001 else if wi v 1 60 = 0 then -1000000001 else aSum (aHrs al (A 1).toNatClampNeg v.toNatClampNeg A) 19 (A 1).toNatClampNeg - (aSum (aHrs al ((A 1).toNatClampNeg + 1) v.toNatClampNeg (aAdd A (A 1).toNatClampNeg k c 10)) 19 ((A 1).toNatClampNeg + 1) - aHrs al ((A 1).toNatClampNeg + 1) v.toNatClampNeg (aAdd A (A 1).toNatClampNeg k c 10) (19 + 5 * (A 1).toNatClampNeg))
theorem vTks_y {al : Int32 → Int32 → Int32 → Int32} {A : Nat → Int32} {k : Int32} {n c j : Nat} (h1 : ¬ wi k 0 5 = 0) (h2 : ¬ wi (nI c) 0 7 = 0) (h3 : ¬ wi (nI j) 1 60 = 0) (hn : A 1 = nI n) (hn9 : n ≤ 9) (hj : j ≤ 60) : vTks al A k (nI c) (nI j) = aSum (aHrs al n j A) 19 n - (aSum (aHrs al (n + 1) j (aAdd A n k (nI c) 10)) 19 (n + 1) - aHrs al (n + 1) j (aAdd A n k (nI c) 10) (19 + 5 * n)) := by
  unfold vTks
  rw [if_neg h1, if_neg h2, if_neg h3, hn, nI_clamp (by omega), nI_clamp (by omega)]
theorem x_takes {G : GX} {S : Shp} {I T : Mem} {d tn bn : Nat} {tx : Nat → Tx} (hK : K S I T tn bn tx) (k c v : Int32) (hd : 12 ≤ d) : PM G yX8_takes cX8_takes 7 (some .int) d 0 0 [.ref 0, .int k, .int c, .int v] S I (CO I T tn bn tx (vTks (alX tn tx) (aR T) k c v)) := by
  obtain ⟨n, hn, hw, hA, hz, ht⟩ := hK.n
  have hsh := hK.2.1
  refine PM.of (ls := [some (.ref 0), some (.int k), some (.int c), some (.int v), none, none, none]) (by decide) rfl (Nat.le_of_ble_eq_true rfl) rfl ?_
  show PW G RX8 "takes" _ _ _ _ _ _ _ _ _ _ _ _
  refine P_iload1 (pc' := 1) dX8_takes_0 rfl ?_
  refine P_callS1 (pc' := 4) dX8_takes_1 rfl lk_X8_73 (c_X8_isKind (d := 1) k (by omega)) (by omega) (Nat.le_of_ble_eq_true rfl) (fun r S' I' hq => ?_)
  obtain ⟨rfl, rfl, rfl⟩ := hq
  refine P_if_eq (tgt := 24) (pc' := 7) dX8_takes_4 rfl rfl (fun h4 => ?_) (fun h4 => ?_)
  · refine P_ldc (pc' := 26) dX8_takes_24 rfl co_X8_81 ?_
    refine P_iret dX8_takes_26 ?_
    first
      | (rw [show vTks (alX tn tx) (aR T) k c v = -1000000001 from if_pos h4]; exact CO.id hK)
      | (rw [show vTks (alX tn tx) (aR T) k c v = -1000000001 from (if_neg h4).trans (if_pos h11)]; exact CO.id hK)
      | (rw [show vTks (alX tn tx) (aR T) k c v = -1000000001 from (if_neg h4).trans ((if_neg h11).trans (if_pos h21))]; exact CO.id hK)
  · refine P_iload2 (pc' := 8) dX8_takes_7 rfl ?_
    refine P_callS1 (pc' := 11) dX8_takes_8 rfl lk_X8_136 (c_X8_isCorner (d := 1) c (by omega)) (by omega) (Nat.le_of_ble_eq_true rfl) (fun r S' I' hq => ?_)
    obtain ⟨rfl, rfl, rfl⟩ := hq
    refine P_if_eq (tgt := 24) (pc' := 14) dX8_takes_11 rfl rfl (fun h11 => ?_) (fun h11 => ?_)
    · refine P_ldc (pc' := 26) dX8_takes_24 rfl co_X8_81 ?_
      refine P_iret dX8_takes_26 ?_
      first
        | (rw [show vTks (alX tn tx) (aR T) k c v = -1000000001 from if_pos h4]; exact CO.id hK)
        | (rw [show vTks (alX tn tx) (aR T) k c v = -1000000001 from (if_neg h4).trans (if_pos h11)]; exact CO.id hK)
        | (rw [show vTks (alX tn tx) (aR T) k c v = -1000000001 from (if_neg h4).trans ((if_neg h11).trans (if_pos h21))]; exact CO.id hK)
    · refine P_iload3 (pc' := 15) dX8_takes_14 rfl ?_
      refine P_iconst (pc' := 16) dX8_takes_15 rfl (v := 1) rfl ?_
      refine P_bipush (pc' := 18) dX8_takes_16 rfl (v := 60) rfl ?_
      refine P_callS3 (pc' := 21) dX8_takes_18 rfl lk_X8_77 (c_X8_wi (d := 0) v 1 60) (by omega) (Nat.le_of_ble_eq_true rfl) (fun r S' I' hq => ?_)
      obtain ⟨rfl, rfl, rfl⟩ := hq
      refine P_if_ne (tgt := 27) (pc' := 24) dX8_takes_21 rfl rfl (fun h21 => ?_) (fun h21 => ?_)
      · obtain ⟨c', hc', rfl⟩ := wi_b (m := 7) (by decide) h11
        obtain ⟨j, j1, j2, rfl⟩ := wi_b1 (m := 60) (by decide) h21
        refine P_aload0 (pc' := 28) dX8_takes_27 rfl ?_
        refine P_callV0 (pc' := 31) dX8_takes_28 rfl lk_X8_185 (l_0 hsh) (t_0 hsh) (c_X8_think (d := 6) hK (by omega)) (by omega) (Nat.le_of_ble_eq_true rfl) (fun r S2 I2 hq => ?_)
        obtain ⟨rfl, hK2, hal2, h8, hf2⟩ := hq
        have hsh2 := hK2.2.1
        refine P_aload0 (pc' := 32) dX8_takes_31 rfl ?_
        refine P_getr (pc' := 35) dX8_takes_32 rfl fl_X8_16 rfl (l_0 hsh2) (t_0 hsh2) (q_0_1 hsh2) ?_
        refine P_iload3 (pc' := 36) dX8_takes_35 rfl ?_
        refine P_aload0 (pc' := 37) dX8_takes_36 rfl ?_
        refine P_getr (pc' := 40) dX8_takes_37 rfl fl_X8_47 rfl (l_0 hsh2) (t_0 hsh2) (q_0_7 hsh2) ?_
        refine P_callV2 (pc' := 43) dX8_takes_40 rfl lk_X8_169 (l_8 hsh2) (t_8 hsh2) (c_X5_passHours (d := 6) (n := n) hsh2 (Or.inr (Or.inl rfl)) hal2 (by rw [h8]; exact hw) (by omega) (by omega)) (by omega) (Nat.le_of_ble_eq_true rfl) (fun r S3 I3 hq => ?_)
        obtain ⟨rfl, rfl, hP⟩ := hq
        rw [h8] at hP
        have hz3 := P8_n hP (aHrs_wa hw)
        have hK3 := hK2.p8 hP
        have hf3 : ∀ x, 55 ≤ x → x < 77 → I3 x = I x := fun x h1 h2 => by rw [hP.2.2 x (by unfold Scr; omega) (by omega)]; exact hf2 x h1 h2
        refine P_aload0 (pc' := 44) dX8_takes_43 rfl ?_
        refine P_getr (pc' := 47) dX8_takes_44 rfl fl_X8_16 rfl (l_0 hsh2) (t_0 hsh2) (q_0_1 hsh2) ?_
        refine P_callV0 (pc' := 50) dX8_takes_47 rfl lk_X8_173 (l_8 hsh2) (t_8 hsh2) (c_X5_allPurses (d := 1) (n := n) hsh2 (Or.inr (Or.inl rfl)) hz3 (by omega)) (by omega) (Nat.le_of_ble_eq_true rfl) (fun r S' I' hq => ?_)
        obtain ⟨rfl, rfl, rfl⟩ := hq
        refine P_istore4 (pc' := 52) dX8_takes_50 rfl (by decide) rfl ?_
        refine P_aload0 (pc' := 53) dX8_takes_52 rfl ?_
        refine P_callV0 (pc' := 56) dX8_takes_53 rfl lk_X8_185 (l_0 hsh2) (t_0 hsh2) (c_X8_think (d := 6) hK3 (by omega)) (by omega) (Nat.le_of_ble_eq_true rfl) (fun r S4 I4 hq => ?_)
        obtain ⟨rfl, hK4, hal4, h84, hf4⟩ := hq
        have hsh4 := hK4.2.1
        have hz4 : I4 8 6 = nI n := by have e : aC 8 I4 1 = I4 8 6 := rfl; rw [← e, h84]; exact hw.1
        refine P_aload0 (pc' := 57) dX8_takes_56 rfl ?_
        refine P_getr (pc' := 60) dX8_takes_57 rfl fl_X8_16 rfl (l_0 hsh4) (t_0 hsh4) (q_0_1 hsh4) ?_
        refine P_iload1 (pc' := 61) dX8_takes_60 rfl ?_
        refine P_iload2 (pc' := 62) dX8_takes_61 rfl ?_
        refine P_bipush (pc' := 64) dX8_takes_62 rfl (v := 10) rfl ?_
        refine P_callV3 (pc' := 67) dX8_takes_64 rfl lk_X8_86 (l_8 hsh4) (t_8 hsh4) (c_X5_add (d := 1) hsh4 (Or.inr (Or.inl rfl)) hz4 (by omega) (by omega)) (by omega) (Nat.le_of_ble_eq_true rfl) (fun r S5 I5 hq => ?_)
        obtain ⟨rfl, rfl, hJ5, hF5⟩ := hq
        rw [h84] at hJ5
        have hal5 := hF5.al (Or.inr (Or.inl rfl)) hal4
        have hw5 : WA (aAdd (aR T) n k (nI c') 10) (n + 1) := aAdd_wa (s := 10) hw (by omega) (wi_k h4) (by omega) (by decide)
        refine P_istore5 (pc' := 69) dX8_takes_67 rfl (by decide) rfl ?_
        refine P_aload0 (pc' := 70) dX8_takes_69 rfl ?_
        refine P_getr (pc' := 73) dX8_takes_70 rfl fl_X8_16 rfl (l_0 hsh4) (t_0 hsh4) (q_0_1 hsh4) ?_
        refine P_iload3 (pc' := 74) dX8_takes_73 rfl ?_
        refine P_aload0 (pc' := 75) dX8_takes_74 rfl ?_
        refine P_getr (pc' := 78) dX8_takes_75 rfl fl_X8_47 rfl (l_0 hsh4) (t_0 hsh4) (q_0_7 hsh4) ?_
        refine P_callV2 (pc' := 81) dX8_takes_78 rfl lk_X8_169 (l_8 hsh4) (t_8 hsh4) (c_X5_passHours (d := 6) (n := n + 1) hsh4 (Or.inr (Or.inl rfl)) hal5 (by rw [hJ5]; exact hw5) (by omega) (by omega)) (by omega) (Nat.le_of_ble_eq_true rfl) (fun r S6 I6 hq => ?_)
        obtain ⟨rfl, rfl, hP6⟩ := hq
        rw [hJ5] at hP6
        have hz6 := P8_n hP6 (aHrs_wa hw5)
        have hK6 : K S4 I6 T tn bn tx := hK4.th (fun x h1 h2 => by rw [hP6.2.2 x h1 (by omega)]; exact hF5 x (by omega)) ⟨_, hP6.2.1⟩
        have hf6 : ∀ x, 55 ≤ x → x < 77 → I6 x = I x := fun x h1 h2 => by rw [hP6.2.2 x (by unfold Scr; omega) (by omega), hF5 x (by omega), hf4 x h1 h2]; exact hf3 x h1 h2
        refine P_aload0 (pc' := 82) dX8_takes_81 rfl ?_
        refine P_getr (pc' := 85) dX8_takes_82 rfl fl_X8_16 rfl (l_0 hsh4) (t_0 hsh4) (q_0_1 hsh4) ?_
        refine P_callV0 (pc' := 88) dX8_takes_85 rfl lk_X8_173 (l_8 hsh4) (t_8 hsh4) (c_X5_allPurses (d := 1) (n := n + 1) hsh4 (Or.inr (Or.inl rfl)) hz6 (by omega)) (by omega) (Nat.le_of_ble_eq_true rfl) (fun r S' I' hq => ?_)
        obtain ⟨rfl, rfl, rfl⟩ := hq
        refine P_aload0 (pc' := 89) dX8_takes_88 rfl ?_
        refine P_getr (pc' := 92) dX8_takes_89 rfl fl_X8_16 rfl (l_0 hsh4) (t_0 hsh4) (q_0_1 hsh4) ?_
        refine P_getr (pc' := 95) dX8_takes_92 rfl fl_X8_102 rfl (l_8 hsh4) (t_8 hsh4) (q_8_4 hsh4) ?_
        refine P_iload5 (pc' := 97) dX8_takes_95 rfl ?_
        refine P_iald (pc' := 98) dX8_takes_97 rfl (l_13 hsh4) (t_13 hsh4) (j := n) rfl (by omega) (by decide) ?_
        refine P_isub (pc' := 99) dX8_takes_98 rfl ?_
        refine P_istore6 (pc' := 101) dX8_takes_99 rfl (by decide) rfl ?_
        refine P_iload4 (pc' := 103) dX8_takes_101 rfl ?_
        refine P_iload6 (pc' := 105) dX8_takes_103 rfl ?_
        refine P_isub (pc' := 106) dX8_takes_105 rfl ?_
        refine P_iret dX8_takes_106 ?_
        rw [vTks_y h4 h11 h21 hw.1 (by omega) j2, hP.1, hP6.1, show I6 13 n = aC 8 I6 (19 + 5 * n) from aC_rp (o := 8) I6 (by omega), hP6.1]
        exact ⟨rfl, hK6, hf6⟩
      · refine P_ldc (pc' := 26) dX8_takes_24 rfl co_X8_81 ?_
        refine P_iret dX8_takes_26 ?_
        first
          | (rw [show vTks (alX tn tx) (aR T) k c v = -1000000001 from if_pos h4]; exact CO.id hK)
          | (rw [show vTks (alX tn tx) (aR T) k c v = -1000000001 from (if_neg h4).trans (if_pos h11)]; exact CO.id hK)
          | (rw [show vTks (alX tn tx) (aR T) k c v = -1000000001 from (if_neg h4).trans ((if_neg h11).trans (if_pos h21))]; exact CO.id hK)
def fBes (al : Int32 → Int32 → Int32 → Int32) (A : Nat → Int32) (n b h : Nat) : Nat → Option Int32 := fun c => some (aHrs al n h (upd A (17 + 5 * b) (nI c)) (19 + 5 * b))
theorem lp_X8_best {G : GX} {I0 T : Mem} {d tn bn n b h : Nat} {tx : Nat → Tx} {y : Int32} {R : Option (Nat × Int32)} (hw : WA (aR T) n) (hn : n ≤ 8) (hb : b < n) (hh : h ≤ 100) (hd : 12 ≤ d) : ∀ (k c : Nat) (S : Shp) (I : Mem) (q : Option (Nat × Int32)) (x7 : Option Value), c + k = 9 → K S I T tn bn tx → (∀ x, 55 ≤ x → x < 77 → I x = I0 x) → (c = 0 ↔ q = none) → sel (fBes (alX tn tx) (aR T) n b h) k c q = R → PW G RX8 "best" cX8_best 8 (some .int) d 0 0 (CO I0 T tn bn tx (resV y R)) 39 [some (.ref 0), some (.int (nI b)), some (.int (nI h)), some (.int y), some (.int (bC q)), some (.int (mC q)), some (.int (nI c)), x7] [] S I := by
  intro k
  induction k with
  | zero =>
    intro c S I q x7 hc hK hf hq hR
    have hc : c = 9 := by omega
    subst hc
    have hsh := hK.2.1
    have hR : q = R := hR
    subst hR
    cases q with
    | none => exact absurd (hq.mpr rfl) (by decide)
    | some z =>
      obtain ⟨b', m⟩ := z
      refine P_iload6 (pc' := 41) dX8_best_39 rfl ?_
      refine P_bipush (pc' := 43) dX8_best_41 rfl (v := 8) rfl ?_
      refine P_icmp_gt (tgt := 110) (pc' := 46) dX8_best_43 rfl rfl (fun h43 => ?_) (fun h43 => ?_)
      · refine P_iload3 (pc' := 111) dX8_best_110 rfl ?_
        refine P_if_ne (tgt := 119) (pc' := 114) dX8_best_111 rfl rfl (fun h111 => ?_) (fun h111 => ?_)
        · refine P_iload5 (pc' := 121) dX8_best_119 rfl ?_
          refine P_iret dX8_best_121 ?_
          first
            | (rw [show resV y (some (b', m)) = nI b' from if_pos h111]; exact ⟨rfl, hK, hf⟩)
            | (rw [show resV y (some (b', m)) = m from if_neg h111]; exact ⟨rfl, hK, hf⟩)
        · refine P_iload4 (pc' := 116) dX8_best_114 rfl ?_
          refine P_goto (tgt := 121) dX8_best_116 rfl ?_
          refine P_iret dX8_best_121 ?_
          first
            | (rw [show resV y (some (b', m)) = nI b' from if_pos h111]; exact ⟨rfl, hK, hf⟩)
            | (rw [show resV y (some (b', m)) = m from if_neg h111]; exact ⟨rfl, hK, hf⟩)
      · exact absurd (show (8 : Int32) < nI 9 by decide) h43
  | succ k ih =>
    intro c S I q x7 hc hK hf hq hR
    have hsh := hK.2.1
    rw [sel_s] at hR
    have hfc : fBes (alX tn tx) (aR T) n b h c = some (aHrs (alX tn tx) n h (upd (aR T) (17 + 5 * b) (nI c)) (19 + 5 * b)) := rfl
    have hw2 : WA (upd (aR T) (17 + 5 * b) (nI c)) n := hw.wc (by omega) (by omega)
    cases q with
    | none =>
      rw [selS_0 hfc] at hR
      have c0 : c = 0 := hq.mpr rfl
      refine P_iload6 (pc' := 41) dX8_best_39 rfl ?_
      refine P_bipush (pc' := 43) dX8_best_41 rfl (v := 8) rfl ?_
      refine P_icmp_gt (tgt := 110) (pc' := 46) dX8_best_43 rfl rfl (fun h43 => ?_) (fun h43 => ?_)
      · exact absurd h43 (Int32.not_lt.mpr (nI_le (a := c) (b := 8) (by omega) (by decide)))
      · refine P_aload0 (pc' := 47) dX8_best_46 rfl ?_
        refine P_callV0 (pc' := 50) dX8_best_47 rfl lk_X8_185 (l_0 hsh) (t_0 hsh) (c_X8_think (d := 6) hK (by omega)) (by omega) (Nat.le_of_ble_eq_true rfl) (fun r S2 I2 hq => ?_)
        obtain ⟨rfl, hK2, hal2, h8, hf2⟩ := hq
        have hsh2 := hK2.2.1
        refine P_aload0 (pc' := 51) dX8_best_50 rfl ?_
        refine P_getr (pc' := 54) dX8_best_51 rfl fl_X8_16 rfl (l_0 hsh2) (t_0 hsh2) (q_0_1 hsh2) ?_
        refine P_getr (pc' := 57) dX8_best_54 rfl fl_X8_96 rfl (l_8 hsh2) (t_8 hsh2) (q_8_2 hsh2) ?_
        refine P_iload1 (pc' := 58) dX8_best_57 rfl ?_
        refine P_iload6 (pc' := 60) dX8_best_58 rfl ?_
        refine P_iast (pc' := 61) dX8_best_60 rfl (l_11 hsh2) (t_11 hsh2) (j := b) rfl (by omega) (by decide) ?_
        have hPp : Pst 8 S2 I2 (alX tn tx) (upd (aR T) (17 + 5 * b) (nI c)) (u2 I2 11 b (nI c)) := Pst.put (Or.inr (Or.inl rfl)) hal2 (by decide) (by decide) (by rw [← h8]; exact aC_wc (o := 8) (by omega) (nI c))
        refine P_aload0 (pc' := 62) dX8_best_61 rfl ?_
        refine P_getr (pc' := 65) dX8_best_62 rfl fl_X8_16 rfl (l_0 hsh2) (t_0 hsh2) (q_0_1 hsh2) ?_
        refine P_iload2 (pc' := 66) dX8_best_65 rfl ?_
        refine P_aload0 (pc' := 67) dX8_best_66 rfl ?_
        refine P_getr (pc' := 70) dX8_best_67 rfl fl_X8_47 rfl (l_0 hsh2) (t_0 hsh2) (q_0_7 hsh2) ?_
        refine P_callV2 (pc' := 73) dX8_best_70 rfl lk_X8_169 (l_8 hsh2) (t_8 hsh2) (c_X5_passHours (d := 6) (n := n) hsh2 (Or.inr (Or.inl rfl)) hPp.2.1 (by rw [hPp.1]; exact hw2) (by omega) (by omega)) (by omega) (Nat.le_of_ble_eq_true rfl) (fun r S3 I3 hq => ?_)
        obtain ⟨rfl, rfl, hP⟩ := hq
        rw [hPp.1] at hP
        have hz3 := P8_n hP (aHrs_wa hw2)
        have hPt := hPp.tr hP
        have hK3 := hK2.p8 hPt
        have hf3 : ∀ x, 55 ≤ x → x < 77 → I3 x = I0 x := fun x h1 h2 => by rw [hPt.2.2 x (by unfold Scr; omega) (by omega), hf2 x h1 h2]; exact hf x h1 h2
        refine P_aload0 (pc' := 74) dX8_best_73 rfl ?_
        refine P_getr (pc' := 77) dX8_best_74 rfl fl_X8_16 rfl (l_0 hsh2) (t_0 hsh2) (q_0_1 hsh2) ?_
        refine P_getr (pc' := 80) dX8_best_77 rfl fl_X8_102 rfl (l_8 hsh2) (t_8 hsh2) (q_8_4 hsh2) ?_
        refine P_iload1 (pc' := 81) dX8_best_80 rfl ?_
        refine P_iald (pc' := 82) dX8_best_81 rfl (l_13 hsh2) (t_13 hsh2) (j := b) rfl (by omega) (by decide) ?_
        refine P_as (show I3 13 b = aHrs (alX tn tx) n h (upd (aR T) (17 + 5 * b) (nI c)) (19 + 5 * b) by rw [show I3 13 b = aC 8 I3 (19 + 5 * b) from aC_rp (o := 8) I3 (by omega), hP.1]) ?_
        refine P_istore7 (pc' := 84) dX8_best_82 rfl (by decide) rfl ?_
        refine P_iload6 (pc' := 86) dX8_best_84 rfl ?_
        refine P_if_eq (tgt := 96) (pc' := 89) dX8_best_86 rfl rfl (fun h86 => ?_) (fun h86 => ?_)
        · refine P_iload6 (pc' := 98) dX8_best_96 rfl ?_
          refine P_istore4 (pc' := 100) dX8_best_98 rfl (by decide) rfl ?_
          refine P_iload7 (pc' := 102) dX8_best_100 rfl ?_
          refine P_istore5 (pc' := 104) dX8_best_102 rfl (by decide) rfl ?_
          refine P_iinc6 (pc' := 107) dX8_best_104 rfl (nI_1 c) (by decide) rfl ?_
          refine P_goto (tgt := 39) dX8_best_107 rfl ?_
          exact ih (c + 1) _ I3 (some (c, _)) _ (by omega) hK3 hf3 ⟨fun z => by omega, fun z => by cases z⟩ hR
        · exact absurd (by rw [c0]; rfl) h86
    | some z =>
      obtain ⟨b', m⟩ := z
      have c0 : c ≠ 0 := fun z => absurd (hq.mp z) (by simp)
      refine P_iload6 (pc' := 41) dX8_best_39 rfl ?_
      refine P_bipush (pc' := 43) dX8_best_41 rfl (v := 8) rfl ?_
      refine P_icmp_gt (tgt := 110) (pc' := 46) dX8_best_43 rfl rfl (fun h43 => ?_) (fun h43 => ?_)
      · exact absurd h43 (Int32.not_lt.mpr (nI_le (a := c) (b := 8) (by omega) (by decide)))
      · refine P_aload0 (pc' := 47) dX8_best_46 rfl ?_
        refine P_callV0 (pc' := 50) dX8_best_47 rfl lk_X8_185 (l_0 hsh) (t_0 hsh) (c_X8_think (d := 6) hK (by omega)) (by omega) (Nat.le_of_ble_eq_true rfl) (fun r S2 I2 hq => ?_)
        obtain ⟨rfl, hK2, hal2, h8, hf2⟩ := hq
        have hsh2 := hK2.2.1
        refine P_aload0 (pc' := 51) dX8_best_50 rfl ?_
        refine P_getr (pc' := 54) dX8_best_51 rfl fl_X8_16 rfl (l_0 hsh2) (t_0 hsh2) (q_0_1 hsh2) ?_
        refine P_getr (pc' := 57) dX8_best_54 rfl fl_X8_96 rfl (l_8 hsh2) (t_8 hsh2) (q_8_2 hsh2) ?_
        refine P_iload1 (pc' := 58) dX8_best_57 rfl ?_
        refine P_iload6 (pc' := 60) dX8_best_58 rfl ?_
        refine P_iast (pc' := 61) dX8_best_60 rfl (l_11 hsh2) (t_11 hsh2) (j := b) rfl (by omega) (by decide) ?_
        have hPp : Pst 8 S2 I2 (alX tn tx) (upd (aR T) (17 + 5 * b) (nI c)) (u2 I2 11 b (nI c)) := Pst.put (Or.inr (Or.inl rfl)) hal2 (by decide) (by decide) (by rw [← h8]; exact aC_wc (o := 8) (by omega) (nI c))
        refine P_aload0 (pc' := 62) dX8_best_61 rfl ?_
        refine P_getr (pc' := 65) dX8_best_62 rfl fl_X8_16 rfl (l_0 hsh2) (t_0 hsh2) (q_0_1 hsh2) ?_
        refine P_iload2 (pc' := 66) dX8_best_65 rfl ?_
        refine P_aload0 (pc' := 67) dX8_best_66 rfl ?_
        refine P_getr (pc' := 70) dX8_best_67 rfl fl_X8_47 rfl (l_0 hsh2) (t_0 hsh2) (q_0_7 hsh2) ?_
        refine P_callV2 (pc' := 73) dX8_best_70 rfl lk_X8_169 (l_8 hsh2) (t_8 hsh2) (c_X5_passHours (d := 6) (n := n) hsh2 (Or.inr (Or.inl rfl)) hPp.2.1 (by rw [hPp.1]; exact hw2) (by omega) (by omega)) (by omega) (Nat.le_of_ble_eq_true rfl) (fun r S3 I3 hq => ?_)
        obtain ⟨rfl, rfl, hP⟩ := hq
        rw [hPp.1] at hP
        have hz3 := P8_n hP (aHrs_wa hw2)
        have hPt := hPp.tr hP
        have hK3 := hK2.p8 hPt
        have hf3 : ∀ x, 55 ≤ x → x < 77 → I3 x = I0 x := fun x h1 h2 => by rw [hPt.2.2 x (by unfold Scr; omega) (by omega), hf2 x h1 h2]; exact hf x h1 h2
        refine P_aload0 (pc' := 74) dX8_best_73 rfl ?_
        refine P_getr (pc' := 77) dX8_best_74 rfl fl_X8_16 rfl (l_0 hsh2) (t_0 hsh2) (q_0_1 hsh2) ?_
        refine P_getr (pc' := 80) dX8_best_77 rfl fl_X8_102 rfl (l_8 hsh2) (t_8 hsh2) (q_8_4 hsh2) ?_
        refine P_iload1 (pc' := 81) dX8_best_80 rfl ?_
        refine P_iald (pc' := 82) dX8_best_81 rfl (l_13 hsh2) (t_13 hsh2) (j := b) rfl (by omega) (by decide) ?_
        refine P_as (show I3 13 b = aHrs (alX tn tx) n h (upd (aR T) (17 + 5 * b) (nI c)) (19 + 5 * b) by rw [show I3 13 b = aC 8 I3 (19 + 5 * b) from aC_rp (o := 8) I3 (by omega), hP.1]) ?_
        refine P_istore7 (pc' := 84) dX8_best_82 rfl (by decide) rfl ?_
        refine P_iload6 (pc' := 86) dX8_best_84 rfl ?_
        refine P_if_eq (tgt := 96) (pc' := 89) dX8_best_86 rfl rfl (fun h86 => ?_) (fun h86 => ?_)
        · exact absurd (lp0_c (by omega) h86) c0
        · refine P_iload7 (pc' := 91) dX8_best_89 rfl ?_
          refine P_iload5 (pc' := 93) dX8_best_91 rfl ?_
          refine P_icmp_le (tgt := 104) (pc' := 96) dX8_best_93 rfl rfl (fun h93 => ?_) (fun h93 => ?_)
          · refine P_iinc6 (pc' := 107) dX8_best_104 rfl (nI_1 c) (by decide) rfl ?_
            refine P_goto (tgt := 39) dX8_best_107 rfl ?_
            first
              | (rw [selS_k (m := m) hfc (Int32.not_lt.mpr h93)] at hR; exact ih (c + 1) _ I3 (some (b', m)) _ (by omega) hK3 hf3 ⟨fun z => by omega, fun z => by cases z⟩ hR)
              | (rw [selS_t (m := m) hfc (Int32.not_le.mp h93)] at hR; exact ih (c + 1) _ I3 (some (c, aHrs (alX tn tx) n h (upd (aR T) (17 + 5 * b) (nI c)) (19 + 5 * b))) _ (by omega) hK3 hf3 ⟨fun z => by omega, fun z => by cases z⟩ hR)
          · refine P_iload6 (pc' := 98) dX8_best_96 rfl ?_
            refine P_istore4 (pc' := 100) dX8_best_98 rfl (by decide) rfl ?_
            refine P_iload7 (pc' := 102) dX8_best_100 rfl ?_
            refine P_istore5 (pc' := 104) dX8_best_102 rfl (by decide) rfl ?_
            refine P_iinc6 (pc' := 107) dX8_best_104 rfl (nI_1 c) (by decide) rfl ?_
            refine P_goto (tgt := 39) dX8_best_107 rfl ?_
            first
              | (rw [selS_k (m := m) hfc (Int32.not_lt.mpr h93)] at hR; exact ih (c + 1) _ I3 (some (b', m)) _ (by omega) hK3 hf3 ⟨fun z => by omega, fun z => by cases z⟩ hR)
              | (rw [selS_t (m := m) hfc (Int32.not_le.mp h93)] at hR; exact ih (c + 1) _ I3 (some (c, aHrs (alX tn tx) n h (upd (aR T) (17 + 5 * b) (nI c)) (19 + 5 * b))) _ (by omega) hK3 hf3 ⟨fun z => by omega, fun z => by cases z⟩ hR)
def vBes (al : Int32 → Int32 → Int32 → Int32) (A : Nat → Int32) (b v y : Int32) : Int32 := if wi b 0 (A 1 - 1) = 0 then -1000000001 else if wi v 1 40 = 0 then -1000000001 else if wi y 0 1 = 0 then -1000000001 else resV y (sel (fBes al A (A 1).toNatClampNeg b.toNatClampNeg v.toNatClampNeg) 9 0 none)
theorem x_best {G : GX} {S : Shp} {I T : Mem} {d tn bn : Nat} {tx : Nat → Tx} (hK : K S I T tn bn tx) (b v y : Int32) (hd : 12 ≤ d) : PM G yX8_best cX8_best 8 (some .int) d 0 0 [.ref 0, .int b, .int v, .int y] S I (CO I T tn bn tx (vBes (alX tn tx) (aR T) b v y)) := by
  obtain ⟨n, hn, hw, hA, hz, ht⟩ := hK.n
  have hsh := hK.2.1
  have ev : vBes (alX tn tx) (aR T) b v y = if wi b 0 (nI n - 1) = 0 then -1000000001 else if wi v 1 40 = 0 then -1000000001 else if wi y 0 1 = 0 then -1000000001 else resV y (sel (fBes (alX tn tx) (aR T) n b.toNatClampNeg v.toNatClampNeg) 9 0 none) := by unfold vBes; rw [hw.1, nI_clamp (by omega)]
  rw [ev]
  refine PM.of (ls := [some (.ref 0), some (.int b), some (.int v), some (.int y), none, none, none, none]) (by decide) rfl (Nat.le_of_ble_eq_true rfl) rfl ?_
  show PW G RX8 "best" _ _ _ _ _ _ _ _ _ _ _ _
  refine P_aload0 (pc' := 1) dX8_best_0 rfl ?_
  refine P_iload1 (pc' := 2) dX8_best_1 rfl ?_
  refine P_callV1 (pc' := 5) dX8_best_2 rfl lk_X8_90 (l_0 hsh) (t_0 hsh) (c_X8_isBeggar (d := 1) b hsh hz (by omega)) (by omega) (Nat.le_of_ble_eq_true rfl) (fun r S' I' hq => ?_)
  obtain ⟨rfl, rfl, rfl⟩ := hq
  refine P_if_eq (tgt := 27) (pc' := 8) dX8_best_5 rfl rfl (fun h5 => ?_) (fun h5 => ?_)
  · refine P_ldc (pc' := 29) dX8_best_27 rfl co_X8_81 ?_
    refine P_iret dX8_best_29 ?_
    first
      | (rw [if_pos h5]; exact CO.id hK)
      | (rw [if_neg h5, if_pos h15]; exact CO.id hK)
      | (rw [if_neg h5, if_neg h15, if_pos h24]; exact CO.id hK)
  · refine P_iload2 (pc' := 9) dX8_best_8 rfl ?_
    refine P_iconst (pc' := 10) dX8_best_9 rfl (v := 1) rfl ?_
    refine P_bipush (pc' := 12) dX8_best_10 rfl (v := 40) rfl ?_
    refine P_callS3 (pc' := 15) dX8_best_12 rfl lk_X8_77 (c_X8_wi (d := 0) v 1 40) (by omega) (Nat.le_of_ble_eq_true rfl) (fun r S' I' hq => ?_)
    obtain ⟨rfl, rfl, rfl⟩ := hq
    refine P_if_eq (tgt := 27) (pc' := 18) dX8_best_15 rfl rfl (fun h15 => ?_) (fun h15 => ?_)
    · refine P_ldc (pc' := 29) dX8_best_27 rfl co_X8_81 ?_
      refine P_iret dX8_best_29 ?_
      first
        | (rw [if_pos h5]; exact CO.id hK)
        | (rw [if_neg h5, if_pos h15]; exact CO.id hK)
        | (rw [if_neg h5, if_neg h15, if_pos h24]; exact CO.id hK)
    · refine P_iload3 (pc' := 19) dX8_best_18 rfl ?_
      refine P_iconst (pc' := 20) dX8_best_19 rfl (v := 0) rfl ?_
      refine P_iconst (pc' := 21) dX8_best_20 rfl (v := 1) rfl ?_
      refine P_callS3 (pc' := 24) dX8_best_21 rfl lk_X8_77 (c_X8_wi (d := 0) y 0 1) (by omega) (Nat.le_of_ble_eq_true rfl) (fun r S' I' hq => ?_)
      obtain ⟨rfl, rfl, rfl⟩ := hq
      refine P_if_ne (tgt := 30) (pc' := 27) dX8_best_24 rfl rfl (fun h24 => ?_) (fun h24 => ?_)
      · refine P_iconst (pc' := 31) dX8_best_30 rfl (v := 0) rfl ?_
        refine P_istore4 (pc' := 33) dX8_best_31 rfl (by decide) rfl ?_
        refine P_iconst (pc' := 34) dX8_best_33 rfl (v := 0) rfl ?_
        refine P_istore5 (pc' := 36) dX8_best_34 rfl (by decide) rfl ?_
        refine P_iconst (pc' := 37) dX8_best_36 rfl (v := 0) rfl ?_
        refine P_istore6 (pc' := 39) dX8_best_37 rfl (by decide) rfl ?_
        rw [if_neg h5, if_neg h15, if_neg h24]
        obtain ⟨j, hj, rfl⟩ := wi_n (by omega) h5
        obtain ⟨i, i1, i2, rfl⟩ := wi_b1 (m := 40) (by decide) h15
        rw [nI_clamp (by omega), nI_clamp (by omega)]
        exact lp_X8_best hw hn hj (by omega) hd 9 0 S I none none (by omega) hK (fun _ _ _ => rfl) ⟨fun _ => rfl, fun _ => rfl⟩ rfl
      · refine P_ldc (pc' := 29) dX8_best_27 rfl co_X8_81 ?_
        refine P_iret dX8_best_29 ?_
        first
          | (rw [if_pos h5]; exact CO.id hK)
          | (rw [if_neg h5, if_pos h15]; exact CO.id hK)
          | (rw [if_neg h5, if_neg h15, if_pos h24]; exact CO.id hK)
def fMou (al : Int32 → Int32 → Int32 → Int32) (A : Nat → Int32) (n h : Nat) : Nat → Option Int32 := fun c => some (aSum (aHrs al n h (upd A 5 (nI c))) 19 n)
theorem lp_X8_mourned {G : GX} {I0 T : Mem} {d tn bn n h : Nat} {tx : Nat → Tx} {y : Int32} {R : Option (Nat × Int32)} (hw : WA (aR T) n) (hn : n ≤ 8) (hh : h ≤ 100) (hd : 12 ≤ d) : ∀ (k c : Nat) (S : Shp) (I : Mem) (q : Option (Nat × Int32)) (x6 : Option Value), c + k = 8 → K S I T tn bn tx → (∀ x, 55 ≤ x → x < 77 → I x = I0 x) → (c = 0 ↔ q = none) → sel (fMou (alX tn tx) (aR T) n h) k c q = R → PW G RX8 "mourned" cX8_mourned 7 (some .int) d 0 0 (CO I0 T tn bn tx (resV y R)) 30 [some (.ref 0), some (.int (nI h)), some (.int y), some (.int (bC q)), some (.int (mC q)), some (.int (nI c)), x6] [] S I := by
  intro k
  induction k with
  | zero =>
    intro c S I q x6 hc hK hf hq hR
    have hc : c = 8 := by omega
    subst hc
    have hsh := hK.2.1
    have hR : q = R := hR
    subst hR
    cases q with
    | none => exact absurd (hq.mpr rfl) (by decide)
    | some z =>
      obtain ⟨b', m⟩ := z
      refine P_iload5 (pc' := 32) dX8_mourned_30 rfl ?_
      refine P_bipush (pc' := 34) dX8_mourned_32 rfl (v := 8) rfl ?_
      refine P_icmp_ge (tgt := 96) (pc' := 37) dX8_mourned_34 rfl rfl (fun h34 => ?_) (fun h34 => ?_)
      · refine P_iload2 (pc' := 97) dX8_mourned_96 rfl ?_
        refine P_if_ne (tgt := 104) (pc' := 100) dX8_mourned_97 rfl rfl (fun h97 => ?_) (fun h97 => ?_)
        · refine P_iload4 (pc' := 106) dX8_mourned_104 rfl ?_
          refine P_iret dX8_mourned_106 ?_
          first
            | (rw [show resV y (some (b', m)) = nI b' from if_pos h97]; exact ⟨rfl, hK, hf⟩)
            | (rw [show resV y (some (b', m)) = m from if_neg h97]; exact ⟨rfl, hK, hf⟩)
        · refine P_iload3 (pc' := 101) dX8_mourned_100 rfl ?_
          refine P_goto (tgt := 106) dX8_mourned_101 rfl ?_
          refine P_iret dX8_mourned_106 ?_
          first
            | (rw [show resV y (some (b', m)) = nI b' from if_pos h97]; exact ⟨rfl, hK, hf⟩)
            | (rw [show resV y (some (b', m)) = m from if_neg h97]; exact ⟨rfl, hK, hf⟩)
      · exact absurd (by decide) h34
  | succ k ih =>
    intro c S I q x6 hc hK hf hq hR
    have hsh := hK.2.1
    rw [sel_s] at hR
    have hfc : fMou (alX tn tx) (aR T) n h c = some (aSum (aHrs (alX tn tx) n h (upd (aR T) 5 (nI c))) 19 n) := rfl
    have hw2 : WA (upd (aR T) 5 (nI c)) n := hw.w5 (by omega)
    cases q with
    | none =>
      rw [selS_0 hfc] at hR
      have c0 : c = 0 := hq.mpr rfl
      refine P_iload5 (pc' := 32) dX8_mourned_30 rfl ?_
      refine P_bipush (pc' := 34) dX8_mourned_32 rfl (v := 8) rfl ?_
      refine P_icmp_ge (tgt := 96) (pc' := 37) dX8_mourned_34 rfl rfl (fun h34 => ?_) (fun h34 => ?_)
      · exact absurd h34 (nI_ge (b := 8) (by omega) (by decide))
      · refine P_aload0 (pc' := 38) dX8_mourned_37 rfl ?_
        refine P_callV0 (pc' := 41) dX8_mourned_38 rfl lk_X8_185 (l_0 hsh) (t_0 hsh) (c_X8_think (d := 6) hK (by omega)) (by omega) (Nat.le_of_ble_eq_true rfl) (fun r S2 I2 hq => ?_)
        obtain ⟨rfl, hK2, hal2, h8, hf2⟩ := hq
        have hsh2 := hK2.2.1
        refine P_aload0 (pc' := 42) dX8_mourned_41 rfl ?_
        refine P_getr (pc' := 45) dX8_mourned_42 rfl fl_X8_16 rfl (l_0 hsh2) (t_0 hsh2) (q_0_1 hsh2) ?_
        refine P_iload5 (pc' := 47) dX8_mourned_45 rfl ?_
        refine P_puti (pc' := 50) dX8_mourned_47 rfl fl_X8_148 rfl (l_8 hsh2) (t_8 hsh2) ?_
        have hPp : Pst 8 S2 I2 (alX tn tx) (upd (aR T) 5 (nI c)) (u2 I2 8 9 (nI c)) := Pst.put (Or.inr (Or.inl rfl)) hal2 (by decide) (by decide) (by rw [← h8]; exact aC_sc (o := 8) (j := 5) (by decide) (nI c))
        refine P_aload0 (pc' := 51) dX8_mourned_50 rfl ?_
        refine P_getr (pc' := 54) dX8_mourned_51 rfl fl_X8_16 rfl (l_0 hsh2) (t_0 hsh2) (q_0_1 hsh2) ?_
        refine P_iload1 (pc' := 55) dX8_mourned_54 rfl ?_
        refine P_aload0 (pc' := 56) dX8_mourned_55 rfl ?_
        refine P_getr (pc' := 59) dX8_mourned_56 rfl fl_X8_47 rfl (l_0 hsh2) (t_0 hsh2) (q_0_7 hsh2) ?_
        refine P_callV2 (pc' := 62) dX8_mourned_59 rfl lk_X8_169 (l_8 hsh2) (t_8 hsh2) (c_X5_passHours (d := 6) (n := n) hsh2 (Or.inr (Or.inl rfl)) hPp.2.1 (by rw [hPp.1]; exact hw2) (by omega) (by omega)) (by omega) (Nat.le_of_ble_eq_true rfl) (fun r S3 I3 hq => ?_)
        obtain ⟨rfl, rfl, hP⟩ := hq
        rw [hPp.1] at hP
        have hz3 := P8_n hP (aHrs_wa hw2)
        have hPt := hPp.tr hP
        have hK3 := hK2.p8 hPt
        have hf3 : ∀ x, 55 ≤ x → x < 77 → I3 x = I0 x := fun x h1 h2 => by rw [hPt.2.2 x (by unfold Scr; omega) (by omega), hf2 x h1 h2]; exact hf x h1 h2
        refine P_aload0 (pc' := 63) dX8_mourned_62 rfl ?_
        refine P_getr (pc' := 66) dX8_mourned_63 rfl fl_X8_16 rfl (l_0 hsh2) (t_0 hsh2) (q_0_1 hsh2) ?_
        refine P_callV0 (pc' := 69) dX8_mourned_66 rfl lk_X8_173 (l_8 hsh2) (t_8 hsh2) (c_X5_allPurses (d := 1) (n := n) hsh2 (Or.inr (Or.inl rfl)) hz3 (by omega)) (by omega) (Nat.le_of_ble_eq_true rfl) (fun r S' I' hq => ?_)
        obtain ⟨rfl, rfl, rfl⟩ := hq
        refine P_as (show aSum (aC 8 I3) 19 n = aSum (aHrs (alX tn tx) n h (upd (aR T) 5 (nI c))) 19 n by rw [hP.1]) ?_
        refine P_istore6 (pc' := 71) dX8_mourned_69 rfl (by decide) rfl ?_
        refine P_iload5 (pc' := 73) dX8_mourned_71 rfl ?_
        refine P_if_eq (tgt := 83) (pc' := 76) dX8_mourned_73 rfl rfl (fun h73 => ?_) (fun h73 => ?_)
        · refine P_iload5 (pc' := 85) dX8_mourned_83 rfl ?_
          refine P_istore3 (pc' := 86) dX8_mourned_85 rfl (by decide) rfl ?_
          refine P_iload6 (pc' := 88) dX8_mourned_86 rfl ?_
          refine P_istore4 (pc' := 90) dX8_mourned_88 rfl (by decide) rfl ?_
          refine P_iinc5 (pc' := 93) dX8_mourned_90 rfl (nI_1 c) (by decide) rfl ?_
          refine P_goto (tgt := 30) dX8_mourned_93 rfl ?_
          exact ih (c + 1) _ I3 (some (c, _)) _ (by omega) hK3 hf3 ⟨fun z => by omega, fun z => by cases z⟩ hR
        · exact absurd (by rw [c0]; rfl) h73
    | some z =>
      obtain ⟨b', m⟩ := z
      have c0 : c ≠ 0 := fun z => absurd (hq.mp z) (by simp)
      refine P_iload5 (pc' := 32) dX8_mourned_30 rfl ?_
      refine P_bipush (pc' := 34) dX8_mourned_32 rfl (v := 8) rfl ?_
      refine P_icmp_ge (tgt := 96) (pc' := 37) dX8_mourned_34 rfl rfl (fun h34 => ?_) (fun h34 => ?_)
      · exact absurd h34 (nI_ge (b := 8) (by omega) (by decide))
      · refine P_aload0 (pc' := 38) dX8_mourned_37 rfl ?_
        refine P_callV0 (pc' := 41) dX8_mourned_38 rfl lk_X8_185 (l_0 hsh) (t_0 hsh) (c_X8_think (d := 6) hK (by omega)) (by omega) (Nat.le_of_ble_eq_true rfl) (fun r S2 I2 hq => ?_)
        obtain ⟨rfl, hK2, hal2, h8, hf2⟩ := hq
        have hsh2 := hK2.2.1
        refine P_aload0 (pc' := 42) dX8_mourned_41 rfl ?_
        refine P_getr (pc' := 45) dX8_mourned_42 rfl fl_X8_16 rfl (l_0 hsh2) (t_0 hsh2) (q_0_1 hsh2) ?_
        refine P_iload5 (pc' := 47) dX8_mourned_45 rfl ?_
        refine P_puti (pc' := 50) dX8_mourned_47 rfl fl_X8_148 rfl (l_8 hsh2) (t_8 hsh2) ?_
        have hPp : Pst 8 S2 I2 (alX tn tx) (upd (aR T) 5 (nI c)) (u2 I2 8 9 (nI c)) := Pst.put (Or.inr (Or.inl rfl)) hal2 (by decide) (by decide) (by rw [← h8]; exact aC_sc (o := 8) (j := 5) (by decide) (nI c))
        refine P_aload0 (pc' := 51) dX8_mourned_50 rfl ?_
        refine P_getr (pc' := 54) dX8_mourned_51 rfl fl_X8_16 rfl (l_0 hsh2) (t_0 hsh2) (q_0_1 hsh2) ?_
        refine P_iload1 (pc' := 55) dX8_mourned_54 rfl ?_
        refine P_aload0 (pc' := 56) dX8_mourned_55 rfl ?_
        refine P_getr (pc' := 59) dX8_mourned_56 rfl fl_X8_47 rfl (l_0 hsh2) (t_0 hsh2) (q_0_7 hsh2) ?_
        refine P_callV2 (pc' := 62) dX8_mourned_59 rfl lk_X8_169 (l_8 hsh2) (t_8 hsh2) (c_X5_passHours (d := 6) (n := n) hsh2 (Or.inr (Or.inl rfl)) hPp.2.1 (by rw [hPp.1]; exact hw2) (by omega) (by omega)) (by omega) (Nat.le_of_ble_eq_true rfl) (fun r S3 I3 hq => ?_)
        obtain ⟨rfl, rfl, hP⟩ := hq
        rw [hPp.1] at hP
        have hz3 := P8_n hP (aHrs_wa hw2)
        have hPt := hPp.tr hP
        have hK3 := hK2.p8 hPt
        have hf3 : ∀ x, 55 ≤ x → x < 77 → I3 x = I0 x := fun x h1 h2 => by rw [hPt.2.2 x (by unfold Scr; omega) (by omega), hf2 x h1 h2]; exact hf x h1 h2
        refine P_aload0 (pc' := 63) dX8_mourned_62 rfl ?_
        refine P_getr (pc' := 66) dX8_mourned_63 rfl fl_X8_16 rfl (l_0 hsh2) (t_0 hsh2) (q_0_1 hsh2) ?_
        refine P_callV0 (pc' := 69) dX8_mourned_66 rfl lk_X8_173 (l_8 hsh2) (t_8 hsh2) (c_X5_allPurses (d := 1) (n := n) hsh2 (Or.inr (Or.inl rfl)) hz3 (by omega)) (by omega) (Nat.le_of_ble_eq_true rfl) (fun r S' I' hq => ?_)
        obtain ⟨rfl, rfl, rfl⟩ := hq
        refine P_as (show aSum (aC 8 I3) 19 n = aSum (aHrs (alX tn tx) n h (upd (aR T) 5 (nI c))) 19 n by rw [hP.1]) ?_
        refine P_istore6 (pc' := 71) dX8_mourned_69 rfl (by decide) rfl ?_
        refine P_iload5 (pc' := 73) dX8_mourned_71 rfl ?_
        refine P_if_eq (tgt := 83) (pc' := 76) dX8_mourned_73 rfl rfl (fun h73 => ?_) (fun h73 => ?_)
        · exact absurd (lp0_c (by omega) h73) c0
        · refine P_iload6 (pc' := 78) dX8_mourned_76 rfl ?_
          refine P_iload4 (pc' := 80) dX8_mourned_78 rfl ?_
          refine P_icmp_le (tgt := 90) (pc' := 83) dX8_mourned_80 rfl rfl (fun h80 => ?_) (fun h80 => ?_)
          · refine P_iinc5 (pc' := 93) dX8_mourned_90 rfl (nI_1 c) (by decide) rfl ?_
            refine P_goto (tgt := 30) dX8_mourned_93 rfl ?_
            first
              | (rw [selS_k (m := m) hfc (Int32.not_lt.mpr h80)] at hR; exact ih (c + 1) _ I3 (some (b', m)) _ (by omega) hK3 hf3 ⟨fun z => by omega, fun z => by cases z⟩ hR)
              | (rw [selS_t (m := m) hfc (Int32.not_le.mp h80)] at hR; exact ih (c + 1) _ I3 (some (c, aSum (aHrs (alX tn tx) n h (upd (aR T) 5 (nI c))) 19 n)) _ (by omega) hK3 hf3 ⟨fun z => by omega, fun z => by cases z⟩ hR)
          · refine P_iload5 (pc' := 85) dX8_mourned_83 rfl ?_
            refine P_istore3 (pc' := 86) dX8_mourned_85 rfl (by decide) rfl ?_
            refine P_iload6 (pc' := 88) dX8_mourned_86 rfl ?_
            refine P_istore4 (pc' := 90) dX8_mourned_88 rfl (by decide) rfl ?_
            refine P_iinc5 (pc' := 93) dX8_mourned_90 rfl (nI_1 c) (by decide) rfl ?_
            refine P_goto (tgt := 30) dX8_mourned_93 rfl ?_
            first
              | (rw [selS_k (m := m) hfc (Int32.not_lt.mpr h80)] at hR; exact ih (c + 1) _ I3 (some (b', m)) _ (by omega) hK3 hf3 ⟨fun z => by omega, fun z => by cases z⟩ hR)
              | (rw [selS_t (m := m) hfc (Int32.not_le.mp h80)] at hR; exact ih (c + 1) _ I3 (some (c, aSum (aHrs (alX tn tx) n h (upd (aR T) 5 (nI c))) 19 n)) _ (by omega) hK3 hf3 ⟨fun z => by omega, fun z => by cases z⟩ hR)
def vMou (al : Int32 → Int32 → Int32 → Int32) (A : Nat → Int32) (v y : Int32) : Int32 := if wi v 1 60 = 0 then -1000000001 else if wi y 0 1 = 0 then -1000000001 else resV y (sel (fMou al A (A 1).toNatClampNeg v.toNatClampNeg) 8 0 none)
theorem x_mourned {G : GX} {S : Shp} {I T : Mem} {d tn bn : Nat} {tx : Nat → Tx} (hK : K S I T tn bn tx) (v y : Int32) (hd : 12 ≤ d) : PM G yX8_mourned cX8_mourned 7 (some .int) d 0 0 [.ref 0, .int v, .int y] S I (CO I T tn bn tx (vMou (alX tn tx) (aR T) v y)) := by
  obtain ⟨n, hn, hw, hA, hz, ht⟩ := hK.n
  have hsh := hK.2.1
  have ev : vMou (alX tn tx) (aR T) v y = if wi v 1 60 = 0 then -1000000001 else if wi y 0 1 = 0 then -1000000001 else resV y (sel (fMou (alX tn tx) (aR T) n v.toNatClampNeg) 8 0 none) := by unfold vMou; rw [hw.1, nI_clamp (by omega)]
  rw [ev]
  refine PM.of (ls := [some (.ref 0), some (.int v), some (.int y), none, none, none, none]) (by decide) rfl (Nat.le_of_ble_eq_true rfl) rfl ?_
  show PW G RX8 "mourned" _ _ _ _ _ _ _ _ _ _ _ _
  refine P_iload1 (pc' := 1) dX8_mourned_0 rfl ?_
  refine P_iconst (pc' := 2) dX8_mourned_1 rfl (v := 1) rfl ?_
  refine P_bipush (pc' := 4) dX8_mourned_2 rfl (v := 60) rfl ?_
  refine P_callS3 (pc' := 7) dX8_mourned_4 rfl lk_X8_77 (c_X8_wi (d := 0) v 1 60) (by omega) (Nat.le_of_ble_eq_true rfl) (fun r S' I' hq => ?_)
  obtain ⟨rfl, rfl, rfl⟩ := hq
  refine P_if_eq (tgt := 19) (pc' := 10) dX8_mourned_7 rfl rfl (fun h7 => ?_) (fun h7 => ?_)
  · refine P_ldc (pc' := 21) dX8_mourned_19 rfl co_X8_81 ?_
    refine P_iret dX8_mourned_21 ?_
    first
      | (rw [if_pos h7]; exact CO.id hK)
      | (rw [if_neg h7, if_pos h16]; exact CO.id hK)
  · refine P_iload2 (pc' := 11) dX8_mourned_10 rfl ?_
    refine P_iconst (pc' := 12) dX8_mourned_11 rfl (v := 0) rfl ?_
    refine P_iconst (pc' := 13) dX8_mourned_12 rfl (v := 1) rfl ?_
    refine P_callS3 (pc' := 16) dX8_mourned_13 rfl lk_X8_77 (c_X8_wi (d := 0) y 0 1) (by omega) (Nat.le_of_ble_eq_true rfl) (fun r S' I' hq => ?_)
    obtain ⟨rfl, rfl, rfl⟩ := hq
    refine P_if_ne (tgt := 22) (pc' := 19) dX8_mourned_16 rfl rfl (fun h16 => ?_) (fun h16 => ?_)
    · refine P_iconst (pc' := 23) dX8_mourned_22 rfl (v := 0) rfl ?_
      refine P_istore3 (pc' := 24) dX8_mourned_23 rfl (by decide) rfl ?_
      refine P_iconst (pc' := 25) dX8_mourned_24 rfl (v := 0) rfl ?_
      refine P_istore4 (pc' := 27) dX8_mourned_25 rfl (by decide) rfl ?_
      refine P_iconst (pc' := 28) dX8_mourned_27 rfl (v := 0) rfl ?_
      refine P_istore5 (pc' := 30) dX8_mourned_28 rfl (by decide) rfl ?_
      rw [if_neg h7, if_neg h16]
      obtain ⟨i, i1, i2, rfl⟩ := wi_b1 (m := 60) (by decide) h7
      rw [nI_clamp (by omega)]
      exact lp_X8_mourned hw hn (by omega) hd 8 0 S I none none (by omega) hK (fun _ _ _ => rfl) ⟨fun _ => rfl, fun _ => rfl⟩ rfl
    · refine P_ldc (pc' := 21) dX8_mourned_19 rfl co_X8_81 ?_
      refine P_iret dX8_mourned_21 ?_
      first
        | (rw [if_pos h7]; exact CO.id hK)
        | (rw [if_neg h7, if_pos h16]; exact CO.id hK)

