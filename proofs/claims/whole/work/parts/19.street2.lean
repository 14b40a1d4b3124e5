def aHrs (al : Int32 → Int32 → Int32 → Int32) (n k : Nat) (A : Nat → Int32) : Nat → Int32 := it (aHour al n) k A
theorem aHrs_s (al : Int32 → Int32 → Int32 → Int32) (n k : Nat) (A : Nat → Int32) : aHrs al n (k + 1) A = aHrs al n k (aHour al n A) := it_s _ _ _
theorem aHrs_wa {al : Int32 → Int32 → Int32 → Int32} {n' n k : Nat} {A : Nat → Int32} (h : WA A n) : WA (aHrs al n' k A) n := it_wa (fun _ => aHour_wa) k A h
theorem lp_X5_passHours {G : GX} {S : Shp} {I0 : Mem} {d o n h : Nat} {al : Int32 → Int32 → Int32 → Int32} {B : Nat → Int32} (hsh : SHP S) (ho : StO o) (hd : 6 ≤ d) (hh : h < 2 ^ 31) : ∀ (k i : Nat) (I : Mem), i + k = h → AlOk S I al → WA (aC o I) n → Pst o S I0 al (aC o I) I → aHrs al n k (aC o I) = B → PW G RX5 "passHours" cX5_passHours 4 none d 0 0 (fun r S' I' => r = none ∧ S = S' ∧ Pst o S I0 al B I') 2 [some (.ref o), some (.int (nI h)), some (.ref 27), some (.int (nI i))] [] S I := by
  intro k
  induction k with
  | zero =>
    intro i I hi hal hw hp hB
    refine P_iload3 (pc' := 3) dX5_passHours_2 rfl ?_
    refine P_iload1 (pc' := 4) dX5_passHours_3 rfl ?_
    refine P_icmp_ge (tgt := 18) (pc' := 7) dX5_passHours_4 rfl rfl (fun h4 => ?_) (fun h4 => ?_)
    · refine P_vret dX5_passHours_18 ?_
      refine ⟨rfl, rfl, ?_⟩
      rw [← hB]
      exact hp
    · exact absurd (nI_le (by omega) (by omega)) h4
  | succ k ih =>
    intro i I hi hal hw hp hB
    refine P_iload3 (pc' := 3) dX5_passHours_2 rfl ?_
    refine P_iload1 (pc' := 4) dX5_passHours_3 rfl ?_
    refine P_icmp_ge (tgt := 18) (pc' := 7) dX5_passHours_4 rfl rfl (fun h4 => ?_) (fun h4 => ?_)
    · exact absurd h4 (nI_ge (by omega) (by omega))
    · refine P_aload0 (pc' := 8) dX5_passHours_7 rfl ?_
      refine P_aload2 (pc' := 9) dX5_passHours_8 rfl ?_
      refine P_callV1 (pc' := 12) dX5_passHours_9 rfl lk_X5_81 (so_l0 hsh ho) (so_t0 hsh ho) (c_X5_passHour (n := n) (d := 5) hsh ho hal hw (by omega)) (by omega) (Nat.le_of_ble_eq_true rfl) (fun r S' I' hq => ?_)
      obtain ⟨rfl, rfl, hp2⟩ := hq
      refine P_iinc3 (pc' := 15) dX5_passHours_12 rfl (nI_1 i) (by decide) rfl ?_
      refine P_goto (tgt := 2) dX5_passHours_15 rfl ?_
      have h5p : Pst o S I0 al (aC o I') I' := by
        have h2 := hp.tr hp2
        rw [hp2.1]
        exact h2
      refine ih (i + 1) I' (by omega) hp2.2.1 (by rw [hp2.1]; exact aHour_wa hw) h5p ?_
      rw [hp2.1, ← aHrs_s]
      exact hB
theorem c_X5_passHours {G : GX} {S : Shp} {I : Mem} {d o n h : Nat} {al : Int32 → Int32 → Int32 → Int32} (hsh : SHP S) (ho : StO o) (hal : AlOk S I al) (hw : WA (aC o I) n) (hh : h < 2 ^ 31) (hd : 6 ≤ d) : PM G yX5_passHours cX5_passHours 4 none d 0 0 [.ref o, .int (nI h), .ref 27] S I (fun r S' I' => r = none ∧ S = S' ∧ Pst o S I al (aHrs al n h (aC o I)) I') := by
  refine PM.of (ls := [some (.ref o), some (.int (nI h)), some (.ref 27), none]) (by decide) rfl (Nat.le_of_ble_eq_true rfl) rfl ?_
  show PW G RX5 "passHours" _ _ _ _ _ _ _ _ _ _ _ _
  refine P_iconst (pc' := 1) dX5_passHours_0 rfl (v := 0) rfl ?_
  refine P_istore3 (pc' := 2) dX5_passHours_1 rfl (by decide) rfl ?_
  exact lp_X5_passHours (I0 := I) hsh ho hd hh h 0 I (by omega) hal hw (Pst.self hal) rfl
/-! sums, debts, sets -/
def aSum (A : Nat → Int32) (q : Nat) : Nat → Int32
  | 0 => 0
  | n + 1 => aSum A q n + A (q + 5 * n)
theorem lp_X5_allPurses {G : GX} {S : Shp} {I : Mem} {d o n : Nat} (hsh : SHP S) (ho : StO o) (hz : I o 6 = nI n) (hn : n ≤ 9) : ∀ (k b : Nat), b + k = n → PW G RX5 "allPurses" cX5_allPurses 3 (some .int) d 0 0 (Rm S I (aSum (aC o I) 19 n)) 4 [some (.ref o), some (.int (aSum (aC o I) 19 b)), some (.int (nI b))] [] S I := by
  intro k
  induction k with
  | zero =>
    intro b hb
    have hb : b = n := by omega
    subst hb
    refine P_iload2 (pc' := 5) dX5_allPurses_4 rfl ?_
    refine P_aload0 (pc' := 6) dX5_allPurses_5 rfl ?_
    refine P_geti (pc' := 9) dX5_allPurses_6 rfl fl_X5_30 rfl (so_l0 hsh ho) (so_t0 hsh ho) ?_
    refine P_icmp_ge (tgt := 27) (pc' := 12) dX5_allPurses_9 rfl rfl (fun h9 => ?_) (fun h9 => ?_)
    · refine P_iload1 (pc' := 28) dX5_allPurses_27 rfl ?_
      refine P_iret dX5_allPurses_28 ?_
      exact ⟨rfl, rfl, rfl⟩
    · exact absurd (by rw [hz]; exact Int32.le_refl _) h9
  | succ k ih =>
    intro b hb
    refine P_iload2 (pc' := 5) dX5_allPurses_4 rfl ?_
    refine P_aload0 (pc' := 6) dX5_allPurses_5 rfl ?_
    refine P_geti (pc' := 9) dX5_allPurses_6 rfl fl_X5_30 rfl (so_l0 hsh ho) (so_t0 hsh ho) ?_
    refine P_icmp_ge (tgt := 27) (pc' := 12) dX5_allPurses_9 rfl rfl (fun h9 => ?_) (fun h9 => ?_)
    · exact absurd h9 (by rw [hz]; exact nI_ge (by omega) (by omega))
    · refine P_iload1 (pc' := 13) dX5_allPurses_12 rfl ?_
      refine P_aload0 (pc' := 14) dX5_allPurses_13 rfl ?_
      refine P_getr (pc' := 17) dX5_allPurses_14 rfl fl_X5_24 rfl (so_l0 hsh ho) (so_t0 hsh ho) (so_p4 hsh ho) ?_
      refine P_iload2 (pc' := 18) dX5_allPurses_17 rfl ?_
      refine P_iald (pc' := 19) dX5_allPurses_18 rfl (so_l5 hsh ho) (so_t5 hsh ho) (j := b) rfl (by omega) (by decide) ?_
      refine P_iadd (pc' := 20) dX5_allPurses_19 rfl ?_
      refine P_as (y := aSum (aC o I) 19 (b + 1)) (by rw [aC_rp I (by omega)]; rfl) ?_
      refine P_istore1 (pc' := 21) dX5_allPurses_20 rfl (by decide) rfl ?_
      refine P_iinc2 (pc' := 24) dX5_allPurses_21 rfl (nI_1 b) (by decide) rfl ?_
      refine P_goto (tgt := 4) dX5_allPurses_24 rfl ?_
      exact ih (b + 1) (by omega)
theorem c_X5_allPurses {G : GX} {S : Shp} {I : Mem} {d o n : Nat} (hsh : SHP S) (ho : StO o) (hz : I o 6 = nI n) (hn : n ≤ 9) : PM G yX5_allPurses cX5_allPurses 3 (some .int) d 0 0 [.ref o] S I (Rm S I (aSum (aC o I) 19 n)) := by
  refine PM.of (ls := [some (.ref o), none, none]) (by decide) rfl (Nat.le_of_ble_eq_true rfl) rfl ?_
  show PW G RX5 "allPurses" _ _ _ _ _ _ _ _ _ _ _ _
  refine P_iconst (pc' := 1) dX5_allPurses_0 rfl (v := 0) rfl ?_
  refine P_istore1 (pc' := 2) dX5_allPurses_1 rfl (by decide) rfl ?_
  refine P_iconst (pc' := 3) dX5_allPurses_2 rfl (v := 0) rfl ?_
  refine P_istore2 (pc' := 4) dX5_allPurses_3 rfl (by decide) rfl ?_
  exact lp_X5_allPurses hsh ho hz hn n 0 (by omega)
theorem lp_X5_allHats {G : GX} {S : Shp} {I : Mem} {d o n : Nat} (hsh : SHP S) (ho : StO o) (hz : I o 6 = nI n) (hn : n ≤ 9) : ∀ (k b : Nat), b + k = n → PW G RX5 "allHats" cX5_allHats 3 (some .int) d 0 0 (Rm S I (aSum (aC o I) 20 n)) 4 [some (.ref o), some (.int (aSum (aC o I) 20 b)), some (.int (nI b))] [] S I := by
  intro k
  induction k with
  | zero =>
    intro b hb
    have hb : b = n := by omega
    subst hb
    refine P_iload2 (pc' := 5) dX5_allHats_4 rfl ?_
    refine P_aload0 (pc' := 6) dX5_allHats_5 rfl ?_
    refine P_geti (pc' := 9) dX5_allHats_6 rfl fl_X5_30 rfl (so_l0 hsh ho) (so_t0 hsh ho) ?_
    refine P_icmp_ge (tgt := 27) (pc' := 12) dX5_allHats_9 rfl rfl (fun h9 => ?_) (fun h9 => ?_)
    · refine P_iload1 (pc' := 28) dX5_allHats_27 rfl ?_
      refine P_iret dX5_allHats_28 ?_
      exact ⟨rfl, rfl, rfl⟩
    · exact absurd (by rw [hz]; exact Int32.le_refl _) h9
  | succ k ih =>
    intro b hb
    refine P_iload2 (pc' := 5) dX5_allHats_4 rfl ?_
    refine P_aload0 (pc' := 6) dX5_allHats_5 rfl ?_
    refine P_geti (pc' := 9) dX5_allHats_6 rfl fl_X5_30 rfl (so_l0 hsh ho) (so_t0 hsh ho) ?_
    refine P_icmp_ge (tgt := 27) (pc' := 12) dX5_allHats_9 rfl rfl (fun h9 => ?_) (fun h9 => ?_)
    · exact absurd h9 (by rw [hz]; exact nI_ge (by omega) (by omega))
    · refine P_iload1 (pc' := 13) dX5_allHats_12 rfl ?_
      refine P_aload0 (pc' := 14) dX5_allHats_13 rfl ?_
      refine P_getr (pc' := 17) dX5_allHats_14 rfl fl_X5_27 rfl (so_l0 hsh ho) (so_t0 hsh ho) (so_p5 hsh ho) ?_
      refine P_iload2 (pc' := 18) dX5_allHats_17 rfl ?_
      refine P_iald (pc' := 19) dX5_allHats_18 rfl (so_l6 hsh ho) (so_t6 hsh ho) (j := b) rfl (by omega) (by decide) ?_
      refine P_iadd (pc' := 20) dX5_allHats_19 rfl ?_
      refine P_as (y := aSum (aC o I) 20 (b + 1)) (by rw [aC_rh I (by omega)]; rfl) ?_
      refine P_istore1 (pc' := 21) dX5_allHats_20 rfl (by decide) rfl ?_
      refine P_iinc2 (pc' := 24) dX5_allHats_21 rfl (nI_1 b) (by decide) rfl ?_
      refine P_goto (tgt := 4) dX5_allHats_24 rfl ?_
      exact ih (b + 1) (by omega)
theorem c_X5_allHats {G : GX} {S : Shp} {I : Mem} {d o n : Nat} (hsh : SHP S) (ho : StO o) (hz : I o 6 = nI n) (hn : n ≤ 9) : PM G yX5_allHats cX5_allHats 3 (some .int) d 0 0 [.ref o] S I (Rm S I (aSum (aC o I) 20 n)) := by
  refine PM.of (ls := [some (.ref o), none, none]) (by decide) rfl (Nat.le_of_ble_eq_true rfl) rfl ?_
  show PW G RX5 "allHats" _ _ _ _ _ _ _ _ _ _ _ _
  refine P_iconst (pc' := 1) dX5_allHats_0 rfl (v := 0) rfl ?_
  refine P_istore1 (pc' := 2) dX5_allHats_1 rfl (by decide) rfl ?_
  refine P_iconst (pc' := 3) dX5_allHats_2 rfl (v := 0) rfl ?_
  refine P_istore2 (pc' := 4) dX5_allHats_3 rfl (by decide) rfl ?_
  exact lp_X5_allHats hsh ho hz hn n 0 (by omega)
def aDebt (A : Nat → Int32) : Nat → Nat → Int32
  | 0, _ => 0
  | k + 1, b => if A (19 + 5 * b) < 0 then 1 else aDebt A k (b + 1)
theorem aDebt_s (A : Nat → Int32) (k b : Nat) : aDebt A (k + 1) b = if A (19 + 5 * b) < 0 then 1 else aDebt A k (b + 1) := rfl
theorem lp_X5_anyInDebt {G : GX} {S : Shp} {I : Mem} {d o n : Nat} {v : Int32} (hsh : SHP S) (ho : StO o) (hz : I o 6 = nI n) (hn : n ≤ 9) : ∀ (k b : Nat), b + k = n → aDebt (aC o I) k b = v → PW G RX5 "anyInDebt" cX5_anyInDebt 2 (some .boolean) d 0 0 (Rm S I v) 2 [some (.ref o), some (.int (nI b))] [] S I := by
  intro k
  induction k with
  | zero =>
    intro b hb hv
    have hb : b = n := by omega
    subst hb
    refine P_iload1 (pc' := 3) dX5_anyInDebt_2 rfl ?_
    refine P_aload0 (pc' := 4) dX5_anyInDebt_3 rfl ?_
    refine P_geti (pc' := 7) dX5_anyInDebt_4 rfl fl_X5_30 rfl (so_l0 hsh ho) (so_t0 hsh ho) ?_
    refine P_icmp_ge (tgt := 27) (pc' := 10) dX5_anyInDebt_7 rfl rfl (fun h7 => ?_) (fun h7 => ?_)
    · refine P_iconst (pc' := 28) dX5_anyInDebt_27 rfl (v := 0) rfl ?_
      refine P_zret dX5_anyInDebt_28 (by first | exact Or.inl rfl | exact Or.inr rfl) ?_
      exact ⟨by rw [← hv]; rfl, rfl, rfl⟩
    · exact absurd (by rw [hz]; exact Int32.le_refl _) h7
  | succ k ih =>
    intro b hb hv
    rw [aDebt_s, ← aC_rp I (by omega)] at hv
    refine P_iload1 (pc' := 3) dX5_anyInDebt_2 rfl ?_
    refine P_aload0 (pc' := 4) dX5_anyInDebt_3 rfl ?_
    refine P_geti (pc' := 7) dX5_anyInDebt_4 rfl fl_X5_30 rfl (so_l0 hsh ho) (so_t0 hsh ho) ?_
    refine P_icmp_ge (tgt := 27) (pc' := 10) dX5_anyInDebt_7 rfl rfl (fun h7 => ?_) (fun h7 => ?_)
    · exact absurd h7 (by rw [hz]; exact nI_ge (by omega) (by omega))
    · refine P_aload0 (pc' := 11) dX5_anyInDebt_10 rfl ?_
      refine P_getr (pc' := 14) dX5_anyInDebt_11 rfl fl_X5_24 rfl (so_l0 hsh ho) (so_t0 hsh ho) (so_p4 hsh ho) ?_
      refine P_iload1 (pc' := 15) dX5_anyInDebt_14 rfl ?_
      refine P_iald (pc' := 16) dX5_anyInDebt_15 rfl (so_l5 hsh ho) (so_t5 hsh ho) (j := b) rfl (by omega) (by decide) ?_
      refine P_if_ge (tgt := 21) (pc' := 19) dX5_anyInDebt_16 rfl rfl (fun h16 => ?_) (fun h16 => ?_)
      · refine P_iinc1 (pc' := 24) dX5_anyInDebt_21 rfl (nI_1 b) (by decide) rfl ?_
        refine P_goto (tgt := 2) dX5_anyInDebt_24 rfl ?_
        rw [if_neg (Int32.not_lt.mpr h16)] at hv
        exact ih (b + 1) (by omega) hv
      · refine P_iconst (pc' := 20) dX5_anyInDebt_19 rfl (v := 1) rfl ?_
        refine P_zret dX5_anyInDebt_20 (by first | exact Or.inl rfl | exact Or.inr rfl) ?_
        rw [if_pos (Int32.not_le.mp h16)] at hv
        exact ⟨by rw [← hv], rfl, rfl⟩
theorem c_X5_anyInDebt {G : GX} {S : Shp} {I : Mem} {d o n : Nat} (hsh : SHP S) (ho : StO o) (hz : I o 6 = nI n) (hn : n ≤ 9) : PM G yX5_anyInDebt cX5_anyInDebt 2 (some .boolean) d 0 0 [.ref o] S I (Rm S I (aDebt (aC o I) n 0)) := by
  refine PM.of (ls := [some (.ref o), none]) (by decide) rfl (Nat.le_of_ble_eq_true rfl) rfl ?_
  show PW G RX5 "anyInDebt" _ _ _ _ _ _ _ _ _ _ _ _
  refine P_iconst (pc' := 1) dX5_anyInDebt_0 rfl (v := 0) rfl ?_
  refine P_istore1 (pc' := 2) dX5_anyInDebt_1 rfl (by decide) rfl ?_
  exact lp_X5_anyInDebt hsh ho hz hn n 0 (by omega) rfl
def aTak (A : Nat → Int32) : Nat → Nat → Int32 → Int32
  | 0, _, v => v
  | k + 1, b, v => aTak A k (b + 1) (if A (17 + 5 * b) = 8 then v else v ||| (1 <<< (A (17 + 5 * b) &&& 31)))
theorem aTak_s (A : Nat → Int32) (k b : Nat) (v : Int32) : aTak A (k + 1) b v = aTak A k (b + 1) (if A (17 + 5 * b) = 8 then v else v ||| (1 <<< (A (17 + 5 * b) &&& 31))) := rfl
theorem lp_X5_taken {G : GX} {S : Shp} {I : Mem} {d o n : Nat} {y : Int32} (hsh : SHP S) (ho : StO o) (hz : I o 6 = nI n) (hn : n ≤ 9) : ∀ (k b : Nat) (v : Int32), b + k = n → aTak (aC o I) k b v = y → PW G RX5 "taken" cX5_taken 3 (some .int) d 0 0 (Rm S I y) 4 [some (.ref o), some (.int v), some (.int (nI b))] [] S I := by
  intro k
  induction k with
  | zero =>
    intro b v hb hv
    have hb : b = n := by omega
    subst hb
    refine P_iload2 (pc' := 5) dX5_taken_4 rfl ?_
    refine P_aload0 (pc' := 6) dX5_taken_5 rfl ?_
    refine P_geti (pc' := 9) dX5_taken_6 rfl fl_X5_30 rfl (so_l0 hsh ho) (so_t0 hsh ho) ?_
    refine P_icmp_ge (tgt := 40) (pc' := 12) dX5_taken_9 rfl rfl (fun h9 => ?_) (fun h9 => ?_)
    · refine P_iload1 (pc' := 41) dX5_taken_40 rfl ?_
      refine P_iret dX5_taken_41 ?_
      exact ⟨by rw [← hv]; rfl, rfl, rfl⟩
    · exact absurd (by rw [hz]; exact Int32.le_refl _) h9
  | succ k ih =>
    intro b v hb hv
    rw [aTak_s, ← aC_rc I (by omega)] at hv
    refine P_iload2 (pc' := 5) dX5_taken_4 rfl ?_
    refine P_aload0 (pc' := 6) dX5_taken_5 rfl ?_
    refine P_geti (pc' := 9) dX5_taken_6 rfl fl_X5_30 rfl (so_l0 hsh ho) (so_t0 hsh ho) ?_
    refine P_icmp_ge (tgt := 40) (pc' := 12) dX5_taken_9 rfl rfl (fun h9 => ?_) (fun h9 => ?_)
    · exact absurd h9 (by rw [hz]; exact nI_ge (by omega) (by omega))
    · refine P_aload0 (pc' := 13) dX5_taken_12 rfl ?_
      refine P_getr (pc' := 16) dX5_taken_13 rfl fl_X5_18 rfl (so_l0 hsh ho) (so_t0 hsh ho) (so_p2 hsh ho) ?_
      refine P_iload2 (pc' := 17) dX5_taken_16 rfl ?_
      refine P_iald (pc' := 18) dX5_taken_17 rfl (so_l3 hsh ho) (so_t3 hsh ho) (j := b) rfl (by omega) (by decide) ?_
      refine P_bipush (pc' := 20) dX5_taken_18 rfl (v := 8) rfl ?_
      refine P_icmp_eq (tgt := 34) (pc' := 23) dX5_taken_20 rfl rfl (fun h20 => ?_) (fun h20 => ?_)
      · refine P_iinc2 (pc' := 37) dX5_taken_34 rfl (nI_1 b) (by decide) rfl ?_
        refine P_goto (tgt := 4) dX5_taken_37 rfl ?_
        first
          | (rw [if_pos h20] at hv; exact ih (b + 1) _ (by omega) hv)
          | (rw [if_neg h20] at hv; exact ih (b + 1) _ (by omega) hv)
      · refine P_iload1 (pc' := 24) dX5_taken_23 rfl ?_
        refine P_iconst (pc' := 25) dX5_taken_24 rfl (v := 1) rfl ?_
        refine P_aload0 (pc' := 26) dX5_taken_25 rfl ?_
        refine P_getr (pc' := 29) dX5_taken_26 rfl fl_X5_18 rfl (so_l0 hsh ho) (so_t0 hsh ho) (so_p2 hsh ho) ?_
        refine P_iload2 (pc' := 30) dX5_taken_29 rfl ?_
        refine P_iald (pc' := 31) dX5_taken_30 rfl (so_l3 hsh ho) (so_t3 hsh ho) (j := b) rfl (by omega) (by decide) ?_
        refine P_ishl (pc' := 32) dX5_taken_31 rfl ?_
        refine P_ior (pc' := 33) dX5_taken_32 rfl ?_
        refine P_istore1 (pc' := 34) dX5_taken_33 rfl (by decide) rfl ?_
        refine P_iinc2 (pc' := 37) dX5_taken_34 rfl (nI_1 b) (by decide) rfl ?_
        refine P_goto (tgt := 4) dX5_taken_37 rfl ?_
        first
          | (rw [if_pos h20] at hv; exact ih (b + 1) _ (by omega) hv)
          | (rw [if_neg h20] at hv; exact ih (b + 1) _ (by omega) hv)
theorem c_X5_taken {G : GX} {S : Shp} {I : Mem} {d o n : Nat} (hsh : SHP S) (ho : StO o) (hz : I o 6 = nI n) (hn : n ≤ 9) : PM G yX5_taken cX5_taken 3 (some .int) d 0 0 [.ref o] S I (Rm S I (aTak (aC o I) n 0 0)) := by
  refine PM.of (ls := [some (.ref o), none, none]) (by decide) rfl (Nat.le_of_ble_eq_true rfl) rfl ?_
  show PW G RX5 "taken" _ _ _ _ _ _ _ _ _ _ _ _
  refine P_iconst (pc' := 1) dX5_taken_0 rfl (v := 0) rfl ?_
  refine P_istore1 (pc' := 2) dX5_taken_1 rfl (by decide) rfl ?_
  refine P_iconst (pc' := 3) dX5_taken_2 rfl (v := 0) rfl ?_
  refine P_istore2 (pc' := 4) dX5_taken_3 rfl (by decide) rfl ?_
  exact lp_X5_taken hsh ho hz hn n 0 0 (by omega) rfl
/-- two against the law -/
def aOff (A : Nat → Int32) (i j : Nat) : Int32 :=
  if A (17 + 5 * i) = 8 then 0 else if A (17 + 5 * j) = 8 then 0 else
  if (if (0 : Int32) ≤ A (17 + 5 * i) - A (17 + 5 * j) then A (17 + 5 * i) - A (17 + 5 * j) else 0 - (A (17 + 5 * i) - A (17 + 5 * j))) = 0 then 1 else
  if (if (0 : Int32) ≤ A (17 + 5 * i) - A (17 + 5 * j) then A (17 + 5 * i) - A (17 + 5 * j) else 0 - (A (17 + 5 * i) - A (17 + 5 * j))) = 1 then (if A (16 + 5 * i) = A (16 + 5 * j) then 1 else 0) else 0
theorem c_X5_offends {G : GX} {S : Shp} {I : Mem} {d o i j : Nat} (hsh : SHP S) (ho : StO o) (hi : i < 9) (hj : j < 9) (hd : 1 ≤ d) : PM G yX5_offends cX5_offends 4 (some .boolean) d 0 0 [.ref o, .int (nI i), .int (nI j)] S I (Rm S I (aOff (aC o I) i j)) := by
  refine PM.of (ls := [some (.ref o), some (.int (nI i)), some (.int (nI j)), none]) (by decide) rfl (Nat.le_of_ble_eq_true rfl) rfl ?_
  show PW G RX5 "offends" _ _ _ _ _ _ _ _ _ _ _ _
  unfold aOff
  rw [← aC_rc I hi, ← aC_rc I hj, ← aC_rk I hi, ← aC_rk I hj]
  refine P_aload0 (pc' := 1) dX5_offends_0 rfl ?_
  refine P_getr (pc' := 4) dX5_offends_1 rfl fl_X5_18 rfl (so_l0 hsh ho) (so_t0 hsh ho) (so_p2 hsh ho) ?_
  refine P_iload1 (pc' := 5) dX5_offends_4 rfl ?_
  refine P_iald (pc' := 6) dX5_offends_5 rfl (so_l3 hsh ho) (so_t3 hsh ho) (j := i) rfl hi (by decide) ?_
  refine P_bipush (pc' := 8) dX5_offends_6 rfl (v := 8) rfl ?_
  refine P_icmp_eq (tgt := 22) (pc' := 11) dX5_offends_8 rfl rfl (fun h8 => ?_) (fun h8 => ?_)
  · refine P_iconst (pc' := 23) dX5_offends_22 rfl (v := 0) rfl ?_
    refine P_zret dX5_offends_23 (by first | exact Or.inl rfl | exact Or.inr rfl) ?_
    first
      | exact ⟨by rw [if_pos h8], rfl, rfl⟩
      | exact ⟨by rw [if_neg h8, if_pos h19], rfl, rfl⟩
      | exact ⟨by rw [if_neg h8, if_neg h19, if_pos h42], rfl, rfl⟩
      | exact ⟨by rw [if_neg h8, if_neg h19, if_neg h42, if_neg h47], rfl, rfl⟩
      | exact ⟨by rw [if_neg h8, if_neg h19, if_neg h42, if_pos h47, if_neg h62], rfl, rfl⟩
      | exact ⟨by rw [if_neg h8, if_neg h19, if_neg h42, if_pos h47, if_pos h62], rfl, rfl⟩
  · refine P_aload0 (pc' := 12) dX5_offends_11 rfl ?_
    refine P_getr (pc' := 15) dX5_offends_12 rfl fl_X5_18 rfl (so_l0 hsh ho) (so_t0 hsh ho) (so_p2 hsh ho) ?_
    refine P_iload2 (pc' := 16) dX5_offends_15 rfl ?_
    refine P_iald (pc' := 17) dX5_offends_16 rfl (so_l3 hsh ho) (so_t3 hsh ho) (j := j) rfl hj (by decide) ?_
    refine P_bipush (pc' := 19) dX5_offends_17 rfl (v := 8) rfl ?_
    refine P_icmp_ne (tgt := 24) (pc' := 22) dX5_offends_19 rfl rfl (fun h19 => ?_) (fun h19 => ?_)
    · refine P_aload0 (pc' := 25) dX5_offends_24 rfl ?_
      refine P_getr (pc' := 28) dX5_offends_25 rfl fl_X5_18 rfl (so_l0 hsh ho) (so_t0 hsh ho) (so_p2 hsh ho) ?_
      refine P_iload1 (pc' := 29) dX5_offends_28 rfl ?_
      refine P_iald (pc' := 30) dX5_offends_29 rfl (so_l3 hsh ho) (so_t3 hsh ho) (j := i) rfl hi (by decide) ?_
      refine P_aload0 (pc' := 31) dX5_offends_30 rfl ?_
      refine P_getr (pc' := 34) dX5_offends_31 rfl fl_X5_18 rfl (so_l0 hsh ho) (so_t0 hsh ho) (so_p2 hsh ho) ?_
      refine P_iload2 (pc' := 35) dX5_offends_34 rfl ?_
      refine P_iald (pc' := 36) dX5_offends_35 rfl (so_l3 hsh ho) (so_t3 hsh ho) (j := j) rfl hj (by decide) ?_
      refine P_isub (pc' := 37) dX5_offends_36 rfl ?_
      refine P_abs (pc' := 40) dX5_offends_37 rfl lk_X5_72 (by omega) (Nat.le_of_ble_eq_true rfl) ?_
      refine P_istore3 (pc' := 41) dX5_offends_40 rfl (by decide) rfl ?_
      refine P_iload3 (pc' := 42) dX5_offends_41 rfl ?_
      refine P_if_eq (tgt := 65) (pc' := 45) dX5_offends_42 rfl rfl (fun h42 => ?_) (fun h42 => ?_)
      · refine P_iconst (pc' := 66) dX5_offends_65 rfl (v := 1) rfl ?_
        refine P_goto (tgt := 70) dX5_offends_66 rfl ?_
        refine P_zret dX5_offends_70 (by first | exact Or.inl rfl | exact Or.inr rfl) ?_
        first
          | exact ⟨by rw [if_pos h8], rfl, rfl⟩
          | exact ⟨by rw [if_neg h8, if_pos h19], rfl, rfl⟩
          | exact ⟨by rw [if_neg h8, if_neg h19, if_pos h42], rfl, rfl⟩
          | exact ⟨by rw [if_neg h8, if_neg h19, if_neg h42, if_neg h47], rfl, rfl⟩
          | exact ⟨by rw [if_neg h8, if_neg h19, if_neg h42, if_pos h47, if_neg h62], rfl, rfl⟩
          | exact ⟨by rw [if_neg h8, if_neg h19, if_neg h42, if_pos h47, if_pos h62], rfl, rfl⟩
      · refine P_iload3 (pc' := 46) dX5_offends_45 rfl ?_
        refine P_iconst (pc' := 47) dX5_offends_46 rfl (v := 1) rfl ?_
        refine P_icmp_ne (tgt := 69) (pc' := 50) dX5_offends_47 rfl rfl (fun h47 => ?_) (fun h47 => ?_)
        · refine P_iconst (pc' := 70) dX5_offends_69 rfl (v := 0) rfl ?_
          refine P_zret dX5_offends_70 (by first | exact Or.inl rfl | exact Or.inr rfl) ?_
          first
            | exact ⟨by rw [if_pos h8], rfl, rfl⟩
            | exact ⟨by rw [if_neg h8, if_pos h19], rfl, rfl⟩
            | exact ⟨by rw [if_neg h8, if_neg h19, if_pos h42], rfl, rfl⟩
            | exact ⟨by rw [if_neg h8, if_neg h19, if_neg h42, if_neg h47], rfl, rfl⟩
            | exact ⟨by rw [if_neg h8, if_neg h19, if_neg h42, if_pos h47, if_neg h62], rfl, rfl⟩
            | exact ⟨by rw [if_neg h8, if_neg h19, if_neg h42, if_pos h47, if_pos h62], rfl, rfl⟩
        · refine P_aload0 (pc' := 51) dX5_offends_50 rfl ?_
          refine P_getr (pc' := 54) dX5_offends_51 rfl fl_X5_15 rfl (so_l0 hsh ho) (so_t0 hsh ho) (so_p1 hsh ho) ?_
          refine P_iload1 (pc' := 55) dX5_offends_54 rfl ?_
          refine P_iald (pc' := 56) dX5_offends_55 rfl (so_l2 hsh ho) (so_t2 hsh ho) (j := i) rfl hi (by decide) ?_
          refine P_aload0 (pc' := 57) dX5_offends_56 rfl ?_
          refine P_getr (pc' := 60) dX5_offends_57 rfl fl_X5_15 rfl (so_l0 hsh ho) (so_t0 hsh ho) (so_p1 hsh ho) ?_
          refine P_iload2 (pc' := 61) dX5_offends_60 rfl ?_
          refine P_iald (pc' := 62) dX5_offends_61 rfl (so_l2 hsh ho) (so_t2 hsh ho) (j := j) rfl hj (by decide) ?_
          refine P_icmp_ne (tgt := 69) (pc' := 65) dX5_offends_62 rfl rfl (fun h62 => ?_) (fun h62 => ?_)
          · refine P_iconst (pc' := 70) dX5_offends_69 rfl (v := 0) rfl ?_
            refine P_zret dX5_offends_70 (by first | exact Or.inl rfl | exact Or.inr rfl) ?_
            first
              | exact ⟨by rw [if_pos h8], rfl, rfl⟩
              | exact ⟨by rw [if_neg h8, if_pos h19], rfl, rfl⟩
              | exact ⟨by rw [if_neg h8, if_neg h19, if_pos h42], rfl, rfl⟩
              | exact ⟨by rw [if_neg h8, if_neg h19, if_neg h42, if_neg h47], rfl, rfl⟩
              | exact ⟨by rw [if_neg h8, if_neg h19, if_neg h42, if_pos h47, if_neg h62], rfl, rfl⟩
              | exact ⟨by rw [if_neg h8, if_neg h19, if_neg h42, if_pos h47, if_pos h62], rfl, rfl⟩
          · refine P_iconst (pc' := 66) dX5_offends_65 rfl (v := 1) rfl ?_
            refine P_goto (tgt := 70) dX5_offends_66 rfl ?_
            refine P_zret dX5_offends_70 (by first | exact Or.inl rfl | exact Or.inr rfl) ?_
            first
              | exact ⟨by rw [if_pos h8], rfl, rfl⟩
              | exact ⟨by rw [if_neg h8, if_pos h19], rfl, rfl⟩
              | exact ⟨by rw [if_neg h8, if_neg h19, if_pos h42], rfl, rfl⟩
              | exact ⟨by rw [if_neg h8, if_neg h19, if_neg h42, if_neg h47], rfl, rfl⟩
              | exact ⟨by rw [if_neg h8, if_neg h19, if_neg h42, if_pos h47, if_neg h62], rfl, rfl⟩
              | exact ⟨by rw [if_neg h8, if_neg h19, if_neg h42, if_pos h47, if_pos h62], rfl, rfl⟩
    · refine P_iconst (pc' := 23) dX5_offends_22 rfl (v := 0) rfl ?_
      refine P_zret dX5_offends_23 (by first | exact Or.inl rfl | exact Or.inr rfl) ?_
      first
        | exact ⟨by rw [if_pos h8], rfl, rfl⟩
        | exact ⟨by rw [if_neg h8, if_pos h19], rfl, rfl⟩
        | exact ⟨by rw [if_neg h8, if_neg h19, if_pos h42], rfl, rfl⟩
        | exact ⟨by rw [if_neg h8, if_neg h19, if_neg h42, if_neg h47], rfl, rfl⟩
        | exact ⟨by rw [if_neg h8, if_neg h19, if_neg h42, if_pos h47, if_neg h62], rfl, rfl⟩
        | exact ⟨by rw [if_neg h8, if_neg h19, if_neg h42, if_pos h47, if_pos h62], rfl, rfl⟩
/-- one against the law -/
def aAg (A : Nat → Int32) (b : Nat) : Nat → Nat → Int32
  | 0, _ => 0
  | k + 1, i => if aOff A i b = 0 then aAg A b k (i + 1) else 1
theorem aAg_s (A : Nat → Int32) (b k i : Nat) : aAg A b (k + 1) i = if aOff A i b = 0 then aAg A b k (i + 1) else 1 := rfl
theorem aAg_01 (A : Nat → Int32) (b : Nat) : ∀ k i, aAg A b k i = 0 ∨ aAg A b k i = 1 := by
  intro k
  induction k with
  | zero => intro i; exact Or.inl rfl
  | succ k ih =>
    intro i
    rw [aAg_s]
    split
    · exact ih _
    · exact Or.inr rfl
theorem lp_X5_isAgainstLaw {G : GX} {S : Shp} {I : Mem} {d o n b : Nat} {v : Int32} (hsh : SHP S) (ho : StO o) (hz : I o 6 = nI n) (hn : n ≤ 9) (hb : b < n) (hd : 2 ≤ d) : ∀ (k i : Nat), i + k = b → aAg (aC o I) b k i = v → PW G RX5 "isAgainstLaw" cX5_isAgainstLaw 3 (some .boolean) d 0 0 (Rm S I v) 2 [some (.ref o), some (.int (nI b)), some (.int (nI i))] [] S I := by
  intro k
  induction k with
  | zero =>
    intro i hi hv
    have hi : i = b := by omega
    subst hi
    refine P_iload2 (pc' := 3) dX5_isAgainstLaw_2 rfl ?_
    refine P_iload1 (pc' := 4) dX5_isAgainstLaw_3 rfl ?_
    refine P_icmp_ge (tgt := 32) (pc' := 7) dX5_isAgainstLaw_4 rfl rfl (fun h4 => ?_) (fun h4 => ?_)
    · refine P_iconst (pc' := 33) dX5_isAgainstLaw_32 rfl (v := 0) rfl ?_
      refine P_zret dX5_isAgainstLaw_33 (by first | exact Or.inl rfl | exact Or.inr rfl) ?_
      exact ⟨by rw [← hv]; rfl, rfl, rfl⟩
    · exact absurd (Int32.le_refl _) h4
  | succ k ih =>
    intro i hi hv
    rw [aAg_s] at hv
    refine P_iload2 (pc' := 3) dX5_isAgainstLaw_2 rfl ?_
    refine P_iload1 (pc' := 4) dX5_isAgainstLaw_3 rfl ?_
    refine P_icmp_ge (tgt := 32) (pc' := 7) dX5_isAgainstLaw_4 rfl rfl (fun h4 => ?_) (fun h4 => ?_)
    · exact absurd h4 (nI_ge (by omega) (by omega))
    · refine P_iload1 (pc' := 8) dX5_isAgainstLaw_7 rfl ?_
      refine P_aload0 (pc' := 9) dX5_isAgainstLaw_8 rfl ?_
      refine P_geti (pc' := 12) dX5_isAgainstLaw_9 rfl fl_X5_30 rfl (so_l0 hsh ho) (so_t0 hsh ho) ?_
      refine P_icmp_ge (tgt := 32) (pc' := 15) dX5_isAgainstLaw_12 rfl rfl (fun h12 => ?_) (fun h12 => ?_)
      · exact absurd h12 (by rw [hz]; exact nI_ge (by omega) (by omega))
      · refine P_aload0 (pc' := 16) dX5_isAgainstLaw_15 rfl ?_
        refine P_iload2 (pc' := 17) dX5_isAgainstLaw_16 rfl ?_
        refine P_iload1 (pc' := 18) dX5_isAgainstLaw_17 rfl ?_
        refine P_callV2 (pc' := 21) dX5_isAgainstLaw_18 rfl lk_X5_68 (so_l0 hsh ho) (so_t0 hsh ho) (c_X5_offends (d := 1) hsh ho (by omega) (by omega) (by omega)) (by omega) (Nat.le_of_ble_eq_true rfl) (fun r S' I' hq => ?_)
        obtain ⟨rfl, rfl, rfl⟩ := hq
        refine P_if_eq (tgt := 26) (pc' := 24) dX5_isAgainstLaw_21 rfl rfl (fun h21 => ?_) (fun h21 => ?_)
        · refine P_iinc2 (pc' := 29) dX5_isAgainstLaw_26 rfl (nI_1 i) (by decide) rfl ?_
          refine P_goto (tgt := 2) dX5_isAgainstLaw_29 rfl ?_
          rw [if_pos h21] at hv
          exact ih (i + 1) (by omega) hv
        · refine P_iconst (pc' := 25) dX5_isAgainstLaw_24 rfl (v := 1) rfl ?_
          refine P_zret dX5_isAgainstLaw_25 (by first | exact Or.inl rfl | exact Or.inr rfl) ?_
          rw [if_neg h21] at hv
          exact ⟨by rw [← hv], rfl, rfl⟩
theorem c_X5_isAgainstLaw {G : GX} {S : Shp} {I : Mem} {d o n b : Nat} (hsh : SHP S) (ho : StO o) (hz : I o 6 = nI n) (hn : n ≤ 9) (hb : b < n) (hd : 2 ≤ d) : PM G yX5_isAgainstLaw cX5_isAgainstLaw 3 (some .boolean) d 0 0 [.ref o, .int (nI b)] S I (Rm S I (aAg (aC o I) b b 0)) := by
  refine PM.of (ls := [some (.ref o), some (.int (nI b)), none]) (by decide) rfl (Nat.le_of_ble_eq_true rfl) rfl ?_
  show PW G RX5 "isAgainstLaw" _ _ _ _ _ _ _ _ _ _ _ _
  refine P_iconst (pc' := 1) dX5_isAgainstLaw_0 rfl (v := 0) rfl ?_
  refine P_istore2 (pc' := 2) dX5_isAgainstLaw_1 rfl (by decide) rfl ?_
  exact lp_X5_isAgainstLaw hsh ho hz hn hb hd b 0 (by omega) rfl
def aAgs (A : Nat → Int32) : Nat → Nat → Int32 → Int32
  | 0, _, v => v
  | k + 1, b, v => aAgs A k (b + 1) (if aAg A b b 0 = 0 then v else v ||| (1 <<< (nI b &&& 31)))
theorem aAgs_s (A : Nat → Int32) (k b : Nat) (v : Int32) : aAgs A (k + 1) b v = aAgs A k (b + 1) (if aAg A b b 0 = 0 then v else v ||| (1 <<< (nI b &&& 31))) := rfl
theorem lp_X5_againstLaw {G : GX} {S : Shp} {I : Mem} {d o n : Nat} {y : Int32} (hsh : SHP S) (ho : StO o) (hz : I o 6 = nI n) (hn : n ≤ 9) (hd : 3 ≤ d) : ∀ (k b : Nat) (v : Int32), b + k = n → aAgs (aC o I) k b v = y → PW G RX5 "againstLaw" cX5_againstLaw 3 (some .int) d 0 0 (Rm S I y) 4 [some (.ref o), some (.int v), some (.int (nI b))] [] S I := by
  intro k
  induction k with
  | zero =>
    intro b v hb hv
    have hb : b = n := by omega
    subst hb
    refine P_iload2 (pc' := 5) dX5_againstLaw_4 rfl ?_
    refine P_aload0 (pc' := 6) dX5_againstLaw_5 rfl ?_
    refine P_geti (pc' := 9) dX5_againstLaw_6 rfl fl_X5_30 rfl (so_l0 hsh ho) (so_t0 hsh ho) ?_
    refine P_icmp_ge (tgt := 32) (pc' := 12) dX5_againstLaw_9 rfl rfl (fun h9 => ?_) (fun h9 => ?_)
    · refine P_iload1 (pc' := 33) dX5_againstLaw_32 rfl ?_
      refine P_iret dX5_againstLaw_33 ?_
      exact ⟨by rw [← hv]; rfl, rfl, rfl⟩
    · exact absurd (by rw [hz]; exact Int32.le_refl _) h9
  | succ k ih =>
    intro b v hb hv
    rw [aAgs_s] at hv
    refine P_iload2 (pc' := 5) dX5_againstLaw_4 rfl ?_
    refine P_aload0 (pc' := 6) dX5_againstLaw_5 rfl ?_
    refine P_geti (pc' := 9) dX5_againstLaw_6 rfl fl_X5_30 rfl (so_l0 hsh ho) (so_t0 hsh ho) ?_
    refine P_icmp_ge (tgt := 32) (pc' := 12) dX5_againstLaw_9 rfl rfl (fun h9 => ?_) (fun h9 => ?_)
    · exact absurd h9 (by rw [hz]; exact nI_ge (by omega) (by omega))
    · refine P_aload0 (pc' := 13) dX5_againstLaw_12 rfl ?_
      refine P_iload2 (pc' := 14) dX5_againstLaw_13 rfl ?_
      refine P_callV1 (pc' := 17) dX5_againstLaw_14 rfl lk_X5_76 (so_l0 hsh ho) (so_t0 hsh ho) (c_X5_isAgainstLaw (d := 2) hsh ho hz hn (by omega) (by omega)) (by omega) (Nat.le_of_ble_eq_true rfl) (fun r S' I' hq => ?_)
      obtain ⟨rfl, rfl, rfl⟩ := hq
      refine P_if_eq (tgt := 26) (pc' := 20) dX5_againstLaw_17 rfl rfl (fun h17 => ?_) (fun h17 => ?_)
      · refine P_iinc2 (pc' := 29) dX5_againstLaw_26 rfl (nI_1 b) (by decide) rfl ?_
        refine P_goto (tgt := 4) dX5_againstLaw_29 rfl ?_
        first
          | (rw [if_pos h17] at hv; exact ih (b + 1) _ (by omega) hv)
          | (rw [if_neg h17] at hv; exact ih (b + 1) _ (by omega) hv)
      · refine P_iload1 (pc' := 21) dX5_againstLaw_20 rfl ?_
        refine P_iconst (pc' := 22) dX5_againstLaw_21 rfl (v := 1) rfl ?_
        refine P_iload2 (pc' := 23) dX5_againstLaw_22 rfl ?_
        refine P_ishl (pc' := 24) dX5_againstLaw_23 rfl ?_
        refine P_ior (pc' := 25) dX5_againstLaw_24 rfl ?_
        refine P_istore1 (pc' := 26) dX5_againstLaw_25 rfl (by decide) rfl ?_
        refine P_iinc2 (pc' := 29) dX5_againstLaw_26 rfl (nI_1 b) (by decide) rfl ?_
        refine P_goto (tgt := 4) dX5_againstLaw_29 rfl ?_
        first
          | (rw [if_pos h17] at hv; exact ih (b + 1) _ (by omega) hv)
          | (rw [if_neg h17] at hv; exact ih (b + 1) _ (by omega) hv)
theorem c_X5_againstLaw {G : GX} {S : Shp} {I : Mem} {d o n : Nat} (hsh : SHP S) (ho : StO o) (hz : I o 6 = nI n) (hn : n ≤ 9) (hd : 3 ≤ d) : PM G yX5_againstLaw cX5_againstLaw 3 (some .int) d 0 0 [.ref o] S I (Rm S I (aAgs (aC o I) n 0 0)) := by
  refine PM.of (ls := [some (.ref o), none, none]) (by decide) rfl (Nat.le_of_ble_eq_true rfl) rfl ?_
  show PW G RX5 "againstLaw" _ _ _ _ _ _ _ _ _ _ _ _
  refine P_iconst (pc' := 1) dX5_againstLaw_0 rfl (v := 0) rfl ?_
  refine P_istore1 (pc' := 2) dX5_againstLaw_1 rfl (by decide) rfl ?_
  refine P_iconst (pc' := 3) dX5_againstLaw_2 rfl (v := 0) rfl ?_
  refine P_istore2 (pc' := 4) dX5_againstLaw_3 rfl (by decide) rfl ?_
  exact lp_X5_againstLaw hsh ho hz hn hd n 0 0 (by omega) rfl

