def rdF (A f : Nat → Int32) (n : Nat) : Nat → Nat → Int32
  | 0, _ => -1000000005
  | k + 1, j => if f j = -1000000005 then rdF A f n k (j + 1) else if j < n then (if f j = A (19 + 5 * j) then rdF A f n k (j + 1) else nI j) else nI j
theorem rdF_s (A f : Nat → Int32) (n k j : Nat) : rdF A f n (k + 1) j = if f j = -1000000005 then rdF A f n k (j + 1) else if j < n then (if f j = A (19 + 5 * j) then rdF A f n k (j + 1) else nI j) else nI j := rfl
def vRds (T : Mem) (s : Int32) : Int32 := if wi s 0 3 = 0 then -1000000001 else if T 68 s.toNatClampNeg = -1 then -1000000011 else rdF (aR T) (fun j => T 70 (24 * s.toNatClampNeg + j)) (aR T 1).toNatClampNeg (T 69 s.toNatClampNeg).toNatClampNeg 0
theorem wi_e {n j : Nat} (hn : n ≤ 2000) (h : wi (nI j) 0 (nI n - 1) = 0) : n ≤ j := by
  rcases Nat.lt_or_ge j n with q | q
  · rw [wi_y hn q] at h; exact absurd h (by decide)
  · exact q
theorem wi_f {n j : Nat} (hn : n ≤ 2000) (hj : j ≤ 2000) (h : ¬ wi (nI j) 0 (nI n - 1) = 0) : j < n := by
  obtain ⟨k, hk, e⟩ := wi_n hn h
  have := (nI_eq (by omega) (by omega)).mp e
  omega
theorem lp_X8_reads {G : GX} {S : Shp} {I T : Mem} {d tn bn i n m : Nat} {tx : Nat → Tx} {v : Int32} (hK : K S I T tn bn tx) (hi : i < 4) (hm : m ≤ 24) (em : T 69 i = nI m) (hn : n ≤ 8) (hz : I 1 6 = nI n) (hd : 12 ≤ d) : ∀ k j, j + k = m → rdF (aR T) (fun j => T 70 (24 * i + j)) n k j = v → PW G RX8 "reads" cX8_reads 4 (some .int) d 0 0 (CO I T tn bn tx v) 29 [some (.ref 0), some (.int (nI i)), some (.ref (32 + 2 * i)), some (.int (nI j))] [] S I := by
  have hsh := hK.2.1
  obtain ⟨c1, c2, c3⟩ := hK.2.2.2.2.2.2.1 i hi
  have hw1 := c2.trans em
  intro k
  induction k with
  | zero =>
    intro j hj hv
    have hv : (-1000000005 : Int32) = v := hv
    refine P_iload3 (pc' := 30) dX8_reads_29 rfl ?_
    refine P_aload2 (pc' := 31) dX8_reads_30 rfl ?_
    refine P_geti (pc' := 34) dX8_reads_31 rfl fl_X8_255 rfl (sh_o hsh (show i < 4 by omega)).1 (sh_o hsh (show i < 4 by omega)).2.2.1 ?_
    refine P_as hw1 ?_
    refine P_icmp_ge (tgt := 79) (pc' := 37) dX8_reads_34 rfl rfl (fun h34 => ?_) (fun h34 => ?_)
    · refine P_ldc (pc' := 81) dX8_reads_79 rfl co_X8_188 ?_
      refine P_iret dX8_reads_81 ?_
      rw [← hv]
      exact CO.id hK
    · exact absurd (nI_le (by omega) (by omega)) h34
  | succ k ih =>
    intro j hj hv
    rw [rdF_s] at hv
    have e3 : I (32 + 2 * i + 1) j = T 70 (24 * i + j) := by rw [show 32 + 2 * i + 1 = 33 + 2 * i by omega]; exact c3 j (by omega)
    have ej : nI j + 1 = nI (j + 1) := nI_1 j
    have en : (if wi (nI j) 0 (nI m - 1) = 0 then (0 : Int32) else if I (32 + 2 * i + 1) (nI j).toNatClampNeg = -1000000005 then 0 else 1) = if T 70 (24 * i + j) = -1000000005 then 0 else 1 := by
      rw [wi_y (by omega) (by omega), if_neg (by decide), nI_clamp (by omega), e3]
    by_cases q : T 70 (24 * i + j) = -1000000005
    · rw [if_pos q] at hv en
      refine P_iload3 (pc' := 30) dX8_reads_29 rfl ?_
      refine P_aload2 (pc' := 31) dX8_reads_30 rfl ?_
      refine P_geti (pc' := 34) dX8_reads_31 rfl fl_X8_255 rfl (sh_o hsh (show i < 4 by omega)).1 (sh_o hsh (show i < 4 by omega)).2.2.1 ?_
      refine P_as hw1 ?_
      refine P_icmp_ge (tgt := 79) (pc' := 37) dX8_reads_34 rfl rfl (fun h34 => ?_) (fun h34 => ?_)
      · exact absurd h34 (nI_ge (by omega) (by omega))
      · refine P_aload2 (pc' := 38) dX8_reads_37 rfl ?_
        refine P_iload3 (pc' := 39) dX8_reads_38 rfl ?_
        refine P_callV1 (pc' := 42) dX8_reads_39 rfl lk_X8_256 (sh_o hsh (show i < 4 by omega)).1 (sh_o hsh (show i < 4 by omega)).2.2.1 (c_X3_isNumber (d := 2) (nI j) (sh_o hsh (by omega)) hw1 hm (by omega)) (by omega) (Nat.le_of_ble_eq_true rfl) (fun r S' I' hq => ?_)
        obtain ⟨rfl, rfl, rfl⟩ := hq
        refine P_as en ?_
        refine P_if_eq (tgt := 73) (pc' := 45) dX8_reads_42 rfl rfl (fun h42 => ?_) (fun h42 => ?_)
        · refine P_iinc3 (pc' := 76) dX8_reads_73 rfl ej (by decide) rfl ?_
          refine P_goto (tgt := 29) dX8_reads_76 rfl ?_
          exact ih (j + 1) (by omega) hv
        · exact absurd rfl h42
    · rw [if_neg q] at hv en
      refine P_iload3 (pc' := 30) dX8_reads_29 rfl ?_
      refine P_aload2 (pc' := 31) dX8_reads_30 rfl ?_
      refine P_geti (pc' := 34) dX8_reads_31 rfl fl_X8_255 rfl (sh_o hsh (show i < 4 by omega)).1 (sh_o hsh (show i < 4 by omega)).2.2.1 ?_
      refine P_as hw1 ?_
      refine P_icmp_ge (tgt := 79) (pc' := 37) dX8_reads_34 rfl rfl (fun h34 => ?_) (fun h34 => ?_)
      · exact absurd h34 (nI_ge (by omega) (by omega))
      · refine P_aload2 (pc' := 38) dX8_reads_37 rfl ?_
        refine P_iload3 (pc' := 39) dX8_reads_38 rfl ?_
        refine P_callV1 (pc' := 42) dX8_reads_39 rfl lk_X8_256 (sh_o hsh (show i < 4 by omega)).1 (sh_o hsh (show i < 4 by omega)).2.2.1 (c_X3_isNumber (d := 2) (nI j) (sh_o hsh (by omega)) hw1 hm (by omega)) (by omega) (Nat.le_of_ble_eq_true rfl) (fun r S' I' hq => ?_)
        obtain ⟨rfl, rfl, rfl⟩ := hq
        refine P_as en ?_
        refine P_if_eq (tgt := 73) (pc' := 45) dX8_reads_42 rfl rfl (fun h42 => ?_) (fun h42 => ?_)
        · exact absurd h42 (by decide)
        · refine P_aload0 (pc' := 46) dX8_reads_45 rfl ?_
          refine P_iload3 (pc' := 47) dX8_reads_46 rfl ?_
          refine P_callV1 (pc' := 50) dX8_reads_47 rfl lk_X8_90 (l_0 hsh) (t_0 hsh) (c_X8_isBeggar (d := 1) (nI j) hsh hz (by omega)) (by omega) (Nat.le_of_ble_eq_true rfl) (fun r S' I' hq => ?_)
          obtain ⟨rfl, rfl, rfl⟩ := hq
          refine P_if_eq (tgt := 71) (pc' := 53) dX8_reads_50 rfl rfl (fun h50 => ?_) (fun h50 => ?_)
          · refine P_iload3 (pc' := 72) dX8_reads_71 rfl ?_
            refine P_iret dX8_reads_72 ?_
            first
              | (rw [if_neg (by have := wi_e (by omega) h50; omega)] at hv; rw [← hv]; exact CO.id hK)
              | (rw [if_pos (wi_f (by omega) (by omega) h50), if_neg h68] at hv; rw [← hv]; exact CO.id hK)
          · refine P_aload2 (pc' := 54) dX8_reads_53 rfl ?_
            refine P_getr (pc' := 57) dX8_reads_54 rfl fl_X8_252 rfl (sh_o hsh (show i < 4 by omega)).1 (sh_o hsh (show i < 4 by omega)).2.2.1 (sh_o hsh (show i < 4 by omega)).2.2.2.2 ?_
            refine P_iload3 (pc' := 58) dX8_reads_57 rfl ?_
            refine P_iald (pc' := 59) dX8_reads_58 rfl (sh_o hsh (show i < 4 by omega)).2.1 (sh_o hsh (show i < 4 by omega)).2.2.2.1 (j := j) rfl (by omega) (by decide) ?_
            refine P_as e3 ?_
            refine P_aload0 (pc' := 60) dX8_reads_59 rfl ?_
            refine P_getr (pc' := 63) dX8_reads_60 rfl fl_X8_10 rfl (l_0 hsh) (t_0 hsh) (q_0_0 hsh) ?_
            refine P_getr (pc' := 66) dX8_reads_63 rfl fl_X8_102 rfl (l_1 hsh) (t_1 hsh) (q_1_4 hsh) ?_
            refine P_iload3 (pc' := 67) dX8_reads_66 rfl ?_
            refine P_iald (pc' := 68) dX8_reads_67 rfl (l_6 hsh) (t_6 hsh) (j := j) rfl (by have := wi_f (by omega) (by omega) h50; omega) (by decide) ?_
            refine P_as (y := aR T (19 + 5 * j)) (hK.rd (show j < 9 by have := wi_f (by omega) (by omega) h50; omega)).2.2.2.1 ?_
            refine P_icmp_eq (tgt := 73) (pc' := 71) dX8_reads_68 rfl rfl (fun h68 => ?_) (fun h68 => ?_)
            · refine P_iinc3 (pc' := 76) dX8_reads_73 rfl ej (by decide) rfl ?_
              refine P_goto (tgt := 29) dX8_reads_76 rfl ?_
              exact ih (j + 1) (by omega) (by rw [if_pos (wi_f (by omega) (by omega) h50), if_pos h68] at hv; exact hv)
            · refine P_iload3 (pc' := 72) dX8_reads_71 rfl ?_
              refine P_iret dX8_reads_72 ?_
              first
                | (rw [if_neg (by have := wi_e (by omega) h50; omega)] at hv; rw [← hv]; exact CO.id hK)
                | (rw [if_pos (wi_f (by omega) (by omega) h50), if_neg h68] at hv; rw [← hv]; exact CO.id hK)
theorem x_reads {G : GX} {S : Shp} {I T : Mem} {d tn bn : Nat} {tx : Nat → Tx} (hK : K S I T tn bn tx) (s : Int32) (hd : 12 ≤ d) : PM G yX8_reads cX8_reads 4 (some .int) d 0 0 [.ref 0, .int s] S I (CO I T tn bn tx (vRds T s)) := by
  obtain ⟨n, hn, hw, hA, hz, ht⟩ := hK.n
  have hsh := hK.2.1
  refine PM.of (ls := [some (.ref 0), some (.int s), none, none]) (by decide) rfl (Nat.le_of_ble_eq_true rfl) rfl ?_
  show PW G RX8 "reads" _ _ _ _ _ _ _ _ _ _ _ _
  by_cases hs : wi s 0 3 = 0
  · rw [show vRds T s = -1000000001 from if_pos hs]
    refine P_iload1 (pc' := 1) dX8_reads_0 rfl ?_
    refine P_callS1 (pc' := 4) dX8_reads_1 rfl lk_X8_203 (c_X8_isSheet (d := 1) s (by omega)) (by omega) (Nat.le_of_ble_eq_true rfl) (fun r S' I' hq => ?_)
    obtain ⟨rfl, rfl, rfl⟩ := hq
    refine P_if_ne (tgt := 10) (pc' := 7) dX8_reads_4 rfl rfl (fun h4 => ?_) (fun h4 => ?_)
    · exact absurd hs h4
    · refine P_ldc (pc' := 9) dX8_reads_7 rfl co_X8_81 ?_
      refine P_iret dX8_reads_9 ?_
      exact CO.id hK
  · obtain ⟨i, hi, rfl⟩ := wi_b (m := 3) (by decide) hs
    obtain ⟨s1, ⟨m, hm, s2⟩, s3⟩ := hK.1.2.2.2.2.1 i (by omega)
    obtain ⟨c1, c2, c3⟩ := hK.2.2.2.2.2.2.1 i (by omega)
    have eo : vRds T (nI i) = if T 68 i = -1 then -1000000011 else rdF (aR T) (fun j => T 70 (24 * i + j)) n m 0 := by unfold vRds; rw [if_neg hs, nI_clamp (by omega), s2, nI_clamp (by omega), hw.1, nI_clamp (by omega)]
    rw [eo]
    refine P_iload1 (pc' := 1) dX8_reads_0 rfl ?_
    refine P_callS1 (pc' := 4) dX8_reads_1 rfl lk_X8_203 (c_X8_isSheet (d := 1) _ (by omega)) (by omega) (Nat.le_of_ble_eq_true rfl) (fun r S' I' hq => ?_)
    obtain ⟨rfl, rfl, rfl⟩ := hq
    refine P_if_ne (tgt := 10) (pc' := 7) dX8_reads_4 rfl rfl (fun h4 => ?_) (fun h4 => ?_)
    · refine P_aload0 (pc' := 11) dX8_reads_10 rfl ?_
      refine P_getr (pc' := 14) dX8_reads_11 rfl fl_X8_53 rfl (l_0 hsh) (t_0 hsh) (q_0_8 hsh) ?_
      refine P_iload1 (pc' := 15) dX8_reads_14 rfl ?_
      refine P_aald13 (pc' := 16) dX8_reads_15 rfl (l_29 hsh) (t_29 hsh) (j := i) rfl (by omega) (by decide) (sh_q hsh (by omega)) ?_
      refine P_astore2 (pc' := 17) dX8_reads_16 rfl (by decide) rfl ?_
      refine P_aload2 (pc' := 18) dX8_reads_17 rfl ?_
      refine P_callV0 (pc' := 21) dX8_reads_18 rfl lk_X8_206 (sh_o hsh (show i < 4 by omega)).1 (sh_o hsh (show i < 4 by omega)).2.2.1 (c_X3_isMissing (d := 2) (sh_o hsh (by omega))) (by omega) (Nat.le_of_ble_eq_true rfl) (fun r S' I' hq => ?_)
      obtain ⟨rfl, rfl, rfl⟩ := hq
      rw [c1]
      refine P_if_eq (tgt := 27) (pc' := 24) dX8_reads_21 rfl rfl (fun h21 => ?_) (fun h21 => ?_)
      · refine P_iconst (pc' := 28) dX8_reads_27 rfl (v := 0) rfl ?_
        refine P_istore3 (pc' := 29) dX8_reads_28 rfl (by decide) rfl ?_
        have q : ¬ T 68 i = -1 := fun z => by rw [if_pos z] at h21; exact absurd h21 (by decide)
        rw [if_neg q]
        exact lp_X8_reads hK (by omega) hm s2 hn hz hd m 0 (by omega) rfl
      · refine P_ldc (pc' := 26) dX8_reads_24 rfl co_X8_209 ?_
        refine P_iret dX8_reads_26 ?_
        have q : T 68 i = -1 := Classical.byContradiction (fun z => h21 (if_neg z))
        rw [if_pos q]
        exact CO.id hK
    · exact absurd h4 hs
/-! pour -/
def poS (f : Nat → Int32) (c : Nat) (q : Nat × (Nat → Int32)) : Nat × (Nat → Int32) := if f c = -1000000005 then q else if q.2 (8 + c) = hl (f c) 0 9 then q else (q.1 + 1, upd q.2 (8 + c) (hl (f c) 0 9))
def poF (f : Nat → Int32) : Nat → Nat → Nat × (Nat → Int32) → Nat × (Nat → Int32)
  | 0, _, q => q
  | k + 1, c, q => poF f k (c + 1) (poS f c q)
theorem poF_s (f : Nat → Int32) (k c : Nat) (q : Nat × (Nat → Int32)) : poF f (k + 1) c q = poF f k (c + 1) (poS f c q) := rfl
def oPou (T : Mem) (s : Int32) : Int32 × Mem := if wi s 0 3 = 0 then (-1000000001, T) else if T 68 s.toNatClampNeg = -1 then (-1000000011, T) else (nI (poF (fun j => T 70 (24 * s.toNatClampNeg + j)) (min (T 69 s.toNatClampNeg).toNatClampNeg 8) 0 (0, aR T)).1, nw T (poF (fun j => T 70 (24 * s.toNatClampNeg + j)) (min (T 69 s.toNatClampNeg).toNatClampNeg 8) 0 (0, aR T)).2)
theorem nw_nw (T : Mem) (A B : Nat → Int32) : nw (nw T A) B = nw T B := by
  funext x
  by_cases h : x = 56
  · subst h
    funext i
    by_cases hi : i < 61
    · rw [nw_l hi, nw_l hi]
    · rw [nw_61 (by omega), nw_61 (by omega), nw_61 (by omega)]
  · rw [nw_o h, nw_o h, nw_o h]
theorem hl9 (v : Int32) : ∃ r, r ≤ 9 ∧ hl v 0 9 = nI r := by
  unfold hl
  by_cases h : v < 0
  · rw [if_pos h]; exact ⟨0, by decide, rfl⟩
  · rw [if_neg h]
    by_cases h2 : 9 < v
    · rw [if_pos h2]; exact ⟨9, by decide, rfl⟩
    · rw [if_neg h2]; exact nI_of2 (M := 9) (n := 9) (by decide) h (Int32.not_lt.mp h2)
theorem lp_X8_pour {G : GX} {S : Shp} {I0 T : Mem} {d tn bn i m : Nat} {tx : Nat → Tx} {R : Nat × (Nat → Int32)} (hi : i < 4) (hm : m ≤ 24) (em : T 69 i = nI m) (hd : 12 ≤ d) : ∀ (k c y : Nat) (A : Nat → Int32) (I : Mem) (x5 : Option Value), c + k = min m 8 → Z61 A → K S I (nw T A) tn bn tx → (∀ x, 55 ≤ x → x < 77 → I x = I0 x) → poF (fun j => T 70 (24 * i + j)) k c (y, A) = R → PW G RX8 "pour" cX8_pour 6 (some .int) d 0 0 (CO I0 (nw T R.2) tn bn tx (nI R.1)) 32 [some (.ref 0), some (.int (nI i)), some (.ref (32 + 2 * i)), some (.int (nI y)), some (.int (nI c)), x5] [] S I := by
  intro k
  induction k with
  | zero =>
    intro c y A I x5 hc hz hK hf hR
    have hsh := hK.2.1
    obtain ⟨c1, c2, c3⟩ := hK.2.2.2.2.2.2.1 i hi
    have hw1 : I (32 + 2 * i) 1 = nI m := c2.trans em
    have hR : (y, A) = R := hR
    rw [← hR]
    refine P_iload4 (pc' := 34) dX8_pour_32 rfl ?_
    refine P_bipush (pc' := 36) dX8_pour_34 rfl (v := 8) rfl ?_
    refine P_icmp_ge (tgt := 111) (pc' := 39) dX8_pour_36 rfl rfl (fun h36 => ?_) (fun h36 => ?_)
    · refine P_iload3 (pc' := 112) dX8_pour_111 rfl ?_
      refine P_iret dX8_pour_112 ?_
      exact ⟨rfl, hK, hf⟩
    · refine P_iload4 (pc' := 41) dX8_pour_39 rfl ?_
      refine P_aload2 (pc' := 42) dX8_pour_41 rfl ?_
      refine P_geti (pc' := 45) dX8_pour_42 rfl fl_X8_255 rfl (sh_o hsh (show i < 4 by omega)).1 (sh_o hsh (show i < 4 by omega)).2.2.1 ?_
      refine P_as hw1 ?_
      refine P_icmp_ge (tgt := 111) (pc' := 48) dX8_pour_45 rfl rfl (fun h45 => ?_) (fun h45 => ?_)
      · refine P_iload3 (pc' := 112) dX8_pour_111 rfl ?_
        refine P_iret dX8_pour_112 ?_
        exact ⟨rfl, hK, hf⟩
      · exact absurd (nI_le (a := m) (b := c) (by have h8 := g0 (a := c) (b := 8) h36 (by omega) (by decide); omega) (by omega)) h45
  | succ k ih =>
    intro c y A I x5 hc hz hK hf hR
    have hsh := hK.2.1
    obtain ⟨c1, c2, c3⟩ := hK.2.2.2.2.2.2.1 i hi
    have hw1 : I (32 + 2 * i) 1 = nI m := c2.trans em
    have eA : aR (nw T A) = A := nw_R hz
    have e3 : I (32 + 2 * i + 1) c = T 70 (24 * i + c) := by rw [show 32 + 2 * i + 1 = 33 + 2 * i by omega]; exact c3 c (by omega)
    have ec : nI c + 1 = nI (c + 1) := nI_1 c
    have ey : nI y + 1 = nI (y + 1) := nI_1 y
    rw [poF_s] at hR
    have e8 : I 2 c = A (8 + c) := by rw [hK.rt (by omega), eA]
    have en : (if wi (nI c) 0 (nI m - 1) = 0 then (0 : Int32) else if I (32 + 2 * i + 1) (nI c).toNatClampNeg = -1000000005 then 0 else 1) = if T 70 (24 * i + c) = -1000000005 then 0 else 1 := by
      rw [wi_y (by omega) (by omega), if_neg (by decide), nI_clamp (by omega), e3]
    by_cases q : T 70 (24 * i + c) = -1000000005
    · rw [if_pos q] at en
      rw [show poS (fun j => T 70 (24 * i + j)) c (y, A) = (y, A) from if_pos q] at hR
      refine P_iload4 (pc' := 34) dX8_pour_32 rfl ?_
      refine P_bipush (pc' := 36) dX8_pour_34 rfl (v := 8) rfl ?_
      refine P_icmp_ge (tgt := 111) (pc' := 39) dX8_pour_36 rfl rfl (fun h36 => ?_) (fun h36 => ?_)
      · exact absurd h36 (nI_ge (a := c) (b := 8) (by omega) (by decide))
      · refine P_iload4 (pc' := 41) dX8_pour_39 rfl ?_
        refine P_aload2 (pc' := 42) dX8_pour_41 rfl ?_
        refine P_geti (pc' := 45) dX8_pour_42 rfl fl_X8_255 rfl (sh_o hsh (show i < 4 by omega)).1 (sh_o hsh (show i < 4 by omega)).2.2.1 ?_
        refine P_as hw1 ?_
        refine P_icmp_ge (tgt := 111) (pc' := 48) dX8_pour_45 rfl rfl (fun h45 => ?_) (fun h45 => ?_)
        · exact absurd h45 (nI_ge (by omega) (by omega))
        · refine P_aload2 (pc' := 49) dX8_pour_48 rfl ?_
          refine P_iload4 (pc' := 51) dX8_pour_49 rfl ?_
          refine P_callV1 (pc' := 54) dX8_pour_51 rfl lk_X8_256 (sh_o hsh (show i < 4 by omega)).1 (sh_o hsh (show i < 4 by omega)).2.2.1 (c_X3_isNumber (d := 2) (nI c) (sh_o hsh (by omega)) hw1 hm (by omega)) (by omega) (Nat.le_of_ble_eq_true rfl) (fun r S' I' hq => ?_)
          obtain ⟨rfl, rfl, rfl⟩ := hq
          refine P_as en ?_
          refine P_if_ne (tgt := 60) (pc' := 57) dX8_pour_54 rfl rfl (fun h54 => ?_) (fun h54 => ?_)
          · exact absurd rfl h54
          · refine P_goto (tgt := 105) dX8_pour_57 rfl ?_
            refine P_iinc4 (pc' := 108) dX8_pour_105 rfl ec (by decide) rfl ?_
            refine P_goto (tgt := 32) dX8_pour_108 rfl ?_
            exact ih (c + 1) y A I _ (by omega) hz hK hf hR
    · rw [if_neg q] at en
      have ps : poS (fun j => T 70 (24 * i + j)) c (y, A) = if A (8 + c) = hl (T 70 (24 * i + c)) 0 9 then (y, A) else (y + 1, upd A (8 + c) (hl (T 70 (24 * i + c)) 0 9)) := if_neg q
      rw [ps] at hR
      refine P_iload4 (pc' := 34) dX8_pour_32 rfl ?_
      refine P_bipush (pc' := 36) dX8_pour_34 rfl (v := 8) rfl ?_
      refine P_icmp_ge (tgt := 111) (pc' := 39) dX8_pour_36 rfl rfl (fun h36 => ?_) (fun h36 => ?_)
      · exact absurd h36 (nI_ge (a := c) (b := 8) (by omega) (by decide))
      · refine P_iload4 (pc' := 41) dX8_pour_39 rfl ?_
        refine P_aload2 (pc' := 42) dX8_pour_41 rfl ?_
        refine P_geti (pc' := 45) dX8_pour_42 rfl fl_X8_255 rfl (sh_o hsh (show i < 4 by omega)).1 (sh_o hsh (show i < 4 by omega)).2.2.1 ?_
        refine P_as hw1 ?_
        refine P_icmp_ge (tgt := 111) (pc' := 48) dX8_pour_45 rfl rfl (fun h45 => ?_) (fun h45 => ?_)
        · exact absurd h45 (nI_ge (by omega) (by omega))
        · refine P_aload2 (pc' := 49) dX8_pour_48 rfl ?_
          refine P_iload4 (pc' := 51) dX8_pour_49 rfl ?_
          refine P_callV1 (pc' := 54) dX8_pour_51 rfl lk_X8_256 (sh_o hsh (show i < 4 by omega)).1 (sh_o hsh (show i < 4 by omega)).2.2.1 (c_X3_isNumber (d := 2) (nI c) (sh_o hsh (by omega)) hw1 hm (by omega)) (by omega) (Nat.le_of_ble_eq_true rfl) (fun r S' I' hq => ?_)
          obtain ⟨rfl, rfl, rfl⟩ := hq
          refine P_as en ?_
          refine P_if_ne (tgt := 60) (pc' := 57) dX8_pour_54 rfl rfl (fun h54 => ?_) (fun h54 => ?_)
          · refine P_aload2 (pc' := 61) dX8_pour_60 rfl ?_
            refine P_getr (pc' := 64) dX8_pour_61 rfl fl_X8_252 rfl (sh_o hsh (show i < 4 by omega)).1 (sh_o hsh (show i < 4 by omega)).2.2.1 (sh_o hsh (show i < 4 by omega)).2.2.2.2 ?_
            refine P_iload4 (pc' := 66) dX8_pour_64 rfl ?_
            refine P_iald (pc' := 67) dX8_pour_66 rfl (sh_o hsh (show i < 4 by omega)).2.1 (sh_o hsh (show i < 4 by omega)).2.2.2.1 (j := c) rfl (by omega) (by decide) ?_
            refine P_as e3 ?_
            refine P_iconst (pc' := 68) dX8_pour_67 rfl (v := 0) rfl ?_
            refine P_bipush (pc' := 70) dX8_pour_68 rfl (v := 9) rfl ?_
            refine P_callS3 (pc' := 73) dX8_pour_70 rfl lk_X8_259 (c_X8_held (d := 0) _ 0 9) (by omega) (Nat.le_of_ble_eq_true rfl) (fun r S' I' hq => ?_)
            obtain ⟨rfl, rfl, rfl⟩ := hq
            refine P_istore5 (pc' := 75) dX8_pour_73 rfl (by decide) rfl ?_
            refine P_aload0 (pc' := 76) dX8_pour_75 rfl ?_
            refine P_getr (pc' := 79) dX8_pour_76 rfl fl_X8_10 rfl (l_0 hsh) (t_0 hsh) (q_0_0 hsh) ?_
            refine P_getr (pc' := 82) dX8_pour_79 rfl fl_X8_139 rfl (l_1 hsh) (t_1 hsh) (q_1_0 hsh) ?_
            refine P_iload4 (pc' := 84) dX8_pour_82 rfl ?_
            refine P_iald (pc' := 85) dX8_pour_84 rfl (l_2 hsh) (t_2 hsh) (j := c) rfl (by omega) (by decide) ?_
            refine P_as e8 ?_
            refine P_iload5 (pc' := 87) dX8_pour_85 rfl ?_
            refine P_icmp_eq (tgt := 105) (pc' := 90) dX8_pour_87 rfl rfl (fun h87 => ?_) (fun h87 => ?_)
            · refine P_iinc4 (pc' := 108) dX8_pour_105 rfl ec (by decide) rfl ?_
              refine P_goto (tgt := 32) dX8_pour_108 rfl ?_
              first
                | exact ih (c + 1) y A I _ (by omega) hz hK hf (by rw [if_pos h87] at hR; exact hR)
                | (rw [if_neg h87] at hR
                   refine ih (c + 1) (y + 1) _ _ _ (by omega) (fun j hj => by rw [upd_n (by omega)]; exact hz j hj) ?_ (fun x h1 h2 => by rw [u2_row (by omega)]; exact hf x h1 h2) hR
                   rw [← nw_nw T A]
                   refine hK.st (fun x _ hx => u2_row (by omega)) ?_ ?_ (KN.up (by rw [← eA]; exact hK.1.1) (fun n _ hn => hn.wo (by omega) (by omega) (by omega) (Or.inl (by omega))) (by omega) (fun b => by omega) (fun _ _ _ => hl9 _)) (by rw [eA, upd_n (by omega)])
                   · obtain ⟨al, ha⟩ := hK.2.2.2.2.2.1
                     exact ⟨al, ha.mv (u2_row (by decide)) (fun z hz _ => u2_row (by omega))⟩
                   · rw [aC_rent (o := 1) (by omega), hK.2.2.1, eA])
            · refine P_aload0 (pc' := 91) dX8_pour_90 rfl ?_
              refine P_getr (pc' := 94) dX8_pour_91 rfl fl_X8_10 rfl (l_0 hsh) (t_0 hsh) (q_0_0 hsh) ?_
              refine P_getr (pc' := 97) dX8_pour_94 rfl fl_X8_139 rfl (l_1 hsh) (t_1 hsh) (q_1_0 hsh) ?_
              refine P_iload4 (pc' := 99) dX8_pour_97 rfl ?_
              refine P_iload5 (pc' := 101) dX8_pour_99 rfl ?_
              refine P_iast (pc' := 102) dX8_pour_101 rfl (l_2 hsh) (t_2 hsh) (j := c) rfl (by omega) (by decide) ?_
              refine P_iinc3 (pc' := 105) dX8_pour_102 rfl ey (by decide) rfl ?_
              refine P_iinc4 (pc' := 108) dX8_pour_105 rfl ec (by decide) rfl ?_
              refine P_goto (tgt := 32) dX8_pour_108 rfl ?_
              first
                | exact ih (c + 1) y A I _ (by omega) hz hK hf (by rw [if_pos h87] at hR; exact hR)
                | (rw [if_neg h87] at hR
                   refine ih (c + 1) (y + 1) _ _ _ (by omega) (fun j hj => by rw [upd_n (by omega)]; exact hz j hj) ?_ (fun x h1 h2 => by rw [u2_row (by omega)]; exact hf x h1 h2) hR
                   rw [← nw_nw T A]
                   refine hK.st (fun x _ hx => u2_row (by omega)) ?_ ?_ (KN.up (by rw [← eA]; exact hK.1.1) (fun n _ hn => hn.wo (by omega) (by omega) (by omega) (Or.inl (by omega))) (by omega) (fun b => by omega) (fun _ _ _ => hl9 _)) (by rw [eA, upd_n (by omega)])
                   · obtain ⟨al, ha⟩ := hK.2.2.2.2.2.1
                     exact ⟨al, ha.mv (u2_row (by decide)) (fun z hz _ => u2_row (by omega))⟩
                   · rw [aC_rent (o := 1) (by omega), hK.2.2.1, eA])
          · exact absurd h54 (by decide)
theorem x_pour {G : GX} {S : Shp} {I T : Mem} {d tn bn : Nat} {tx : Nat → Tx} (hK : K S I T tn bn tx) (s : Int32) (hd : 12 ≤ d) : PM G yX8_pour cX8_pour 6 (some .int) d 0 0 [.ref 0, .int s] S I (CO I (oPou T s).2 tn bn tx (oPou T s).1) := by
  have hsh := hK.2.1
  refine PM.of (ls := [some (.ref 0), some (.int s), none, none, none, none]) (by decide) rfl (Nat.le_of_ble_eq_true rfl) rfl ?_
  show PW G RX8 "pour" _ _ _ _ _ _ _ _ _ _ _ _
  by_cases hs : wi s 0 3 = 0
  · have eo : oPou T s = (-1000000001, T) := if_pos hs
    refine P_iload1 (pc' := 1) dX8_pour_0 rfl ?_
    refine P_callS1 (pc' := 4) dX8_pour_1 rfl lk_X8_203 (c_X8_isSheet (d := 1) s (by omega)) (by omega) (Nat.le_of_ble_eq_true rfl) (fun r S' I' hq => ?_)
    obtain ⟨rfl, rfl, rfl⟩ := hq
    refine P_if_ne (tgt := 10) (pc' := 7) dX8_pour_4 rfl rfl (fun h4 => ?_) (fun h4 => ?_)
    · exact absurd hs h4
    · refine P_ldc (pc' := 9) dX8_pour_7 rfl co_X8_81 ?_
      refine P_iret dX8_pour_9 ?_
      exact CO.n eo hK
  · obtain ⟨i, hi, rfl⟩ := wi_b (m := 3) (by decide) hs
    obtain ⟨s1, ⟨m, hm, s2⟩, s3⟩ := hK.1.2.2.2.2.1 i (by omega)
    obtain ⟨c1, c2, c3⟩ := hK.2.2.2.2.2.2.1 i (by omega)
    have eo : oPou T (nI i) = if T 68 i = -1 then (-1000000011, T) else (nI (poF (fun j => T 70 (24 * i + j)) (min m 8) 0 (0, aR T)).1, nw T (poF (fun j => T 70 (24 * i + j)) (min m 8) 0 (0, aR T)).2) := by unfold oPou; rw [if_neg hs, nI_clamp (by omega), s2, nI_clamp (by omega)]
    refine P_iload1 (pc' := 1) dX8_pour_0 rfl ?_
    refine P_callS1 (pc' := 4) dX8_pour_1 rfl lk_X8_203 (c_X8_isSheet (d := 1) _ (by omega)) (by omega) (Nat.le_of_ble_eq_true rfl) (fun r S' I' hq => ?_)
    obtain ⟨rfl, rfl, rfl⟩ := hq
    refine P_if_ne (tgt := 10) (pc' := 7) dX8_pour_4 rfl rfl (fun h4 => ?_) (fun h4 => ?_)
    · refine P_aload0 (pc' := 11) dX8_pour_10 rfl ?_
      refine P_getr (pc' := 14) dX8_pour_11 rfl fl_X8_53 rfl (l_0 hsh) (t_0 hsh) (q_0_8 hsh) ?_
      refine P_iload1 (pc' := 15) dX8_pour_14 rfl ?_
      refine P_aald13 (pc' := 16) dX8_pour_15 rfl (l_29 hsh) (t_29 hsh) (j := i) rfl (by omega) (by decide) (sh_q hsh (by omega)) ?_
      refine P_astore2 (pc' := 17) dX8_pour_16 rfl (by decide) rfl ?_
      refine P_aload2 (pc' := 18) dX8_pour_17 rfl ?_
      refine P_callV0 (pc' := 21) dX8_pour_18 rfl lk_X8_206 (sh_o hsh (show i < 4 by omega)).1 (sh_o hsh (show i < 4 by omega)).2.2.1 (c_X3_isMissing (d := 2) (sh_o hsh (by omega))) (by omega) (Nat.le_of_ble_eq_true rfl) (fun r S' I' hq => ?_)
      obtain ⟨rfl, rfl, rfl⟩ := hq
      rw [c1]
      refine P_if_eq (tgt := 27) (pc' := 24) dX8_pour_21 rfl rfl (fun h21 => ?_) (fun h21 => ?_)
      · refine P_iconst (pc' := 28) dX8_pour_27 rfl (v := 0) rfl ?_
        refine P_istore3 (pc' := 29) dX8_pour_28 rfl (by decide) rfl ?_
        refine P_iconst (pc' := 30) dX8_pour_29 rfl (v := 0) rfl ?_
        refine P_istore4 (pc' := 32) dX8_pour_30 rfl (by decide) rfl ?_
        have q : ¬ T 68 i = -1 := fun z => by rw [if_pos z] at h21; exact absurd h21 (by decide)
        rw [eo, if_neg q]
        exact lp_X8_pour (by omega) hm s2 hd (min m 8) 0 0 (aR T) I none (by omega) (Z_R T) (by rw [nw_id]; exact hK) (fun _ _ _ => rfl) rfl
      · refine P_ldc (pc' := 26) dX8_pour_24 rfl co_X8_209 ?_
        refine P_iret dX8_pour_26 ?_
        have q : T 68 i = -1 := Classical.byContradiction (fun z => h21 (if_neg z))
        exact CO.n (eo.trans (if_pos q)) hK
    · exact absurd h4 hs

