/-! ===== the class's reader ===== -/
def fvV (o : Option Nat) : Int32 := match o with
  | none => -1
  | some p => nI p
def WOk (b : Nat → Int32) (n : Nat) (x : Lx) : Prop := x.1 ≤ 4 ∧ x.2.1 ≤ n ∧ x.2.2 ≤ n ∧ (x.1 = 1 ∨ x.1 = 2 ∨ x.1 = 3 → x.2.1 < x.2.2) ∧ (x.1 = 2 → ∀ p, x.2.1 ≤ p → p < x.2.2 → 48 ≤ b p ∧ b p ≤ 57) ∧ (x.1 = 1 → 97 ≤ b x.2.1 ∧ b x.2.1 ≤ 122)
theorem sAt_1 {b : Nat → Int32} {n p : Nat} (h : sAt b n p = 1) : 97 ≤ b p ∧ b p ≤ 122 := by
  unfold sAt at h
  split at h
  · exact absurd h (by decide)
  · split at h
    · assumption
    · split at h <;> exact absurd h (by decide)
theorem advL_1 {b : Nat → Int32} {n : Nat} {x : Lx} (h : (advL b n x).1 = 1) : 97 ≤ b (advL b n x).2.1 ∧ b (advL b n x).2.1 ≤ 122 := by
  unfold advL at h ⊢
  generalize skp b n (n - x.2.2) x.2.2 = p at h ⊢
  unfold lxS at h ⊢
  split at h
  · exact absurd h (by show ¬ (3 : Nat) = 1; decide)
  · rename_i z1
    rw [if_neg z1]
    split at h
    · exact absurd h (by show ¬ (0 : Nat) = 1; decide)
    · rename_i z2
      rw [if_neg z2]
      have h : (if (x.1 = 1 ∨ x.1 = 2) ∧ p = x.2.2 then 4 else sAt b n p) = 1 := h
      split at h
      · exact absurd h (by decide)
      · exact sAt_1 h
theorem WOk.adv {b : Nat → Int32} {n : Nat} {x : Lx} (h : x.2.2 ≤ n) : WOk b n (advL b n x) := by
  obtain ⟨⟨a1, a2, a3, a4, a5, a6⟩, -⟩ := advL_ok (b := b) (x := x) h
  exact ⟨a2, a3, a4, fun q => a5 (by omega), a6, advL_1⟩
theorem WOk.fl {b : Nat → Int32} {n : Nat} {x : Lx} (h : WOk b n x) : WOk b n (4, x.2) := ⟨by show 4 ≤ 4; omega, h.2.1, h.2.2.1, fun q => absurd q (by show ¬ ((4 : Nat) = 1 ∨ (4 : Nat) = 2 ∨ (4 : Nat) = 3); omega), fun q => absurd q (by show ¬ (4 : Nat) = 2; omega), fun q => absurd q (by show ¬ (4 : Nat) = 1; omega)⟩
/-- all but the token -/
def RdR (b : Nat → Int32) (n : Nat) (ky : Int32) (t : Option Nat × List Int32 × Nat) (I : Mem) : Prop := (I 23 1 = nI n ∧ I 24 = b) ∧ I 22 4 = fvV t.1 ∧ I 22 5 = ky ∧ (I 22 7 = nI t.2.1.length ∧ ∀ k, k < t.2.1.length → I 25 k = t.2.1.getD k 0) ∧ I 22 8 = nI t.2.2 ∧ t.2.1.length ≤ 96 ∧ ∀ p, t.1 = some p → p ≤ 96
def RdI (b : Nat → Int32) (n : Nat) (ky : Int32) (s : RS) (I : Mem) : Prop := RdR b n ky s.2 I ∧ (I 22 1 = nI s.1.1 ∧ I 22 2 = nI s.1.2.1 ∧ I 22 3 = nI s.1.2.2) ∧ WOk b n s.1
def FrT (I J : Mem) : Prop := ∀ x, x ≠ 22 → x ≠ 25 → J x = I x
theorem FrT.rf {I : Mem} : FrT I I := fun _ _ _ => rfl
theorem FrT.tr {I J L : Mem} (h1 : FrT I J) (h2 : FrT J L) : FrT I L := fun x a c => (h2 x a c).trans (h1 x a c)
theorem RdR.lx {b : Nat → Int32} {n : Nat} {ky : Int32} {t : Option Nat × List Int32 × Nat} {I J : Mem} {x : Lx} (h : RdR b n ky t I) (hx : WOk b n x) (j1 : J 22 1 = nI x.1) (j2 : J 22 2 = nI x.2.1) (j3 : J 22 3 = nI x.2.2) (hk : ∀ k, k ≠ 1 → k ≠ 2 → k ≠ 3 → J 22 k = I 22 k) (ho : ∀ y, y ≠ 22 → J y = I y) : RdI b n ky (x, t) J := by
  obtain ⟨⟨a1, a2⟩, a3, a4, ⟨a5, a6⟩, a7, a8, a9⟩ := h
  refine ⟨⟨⟨by rw [ho 23 (by decide)]; exact a1, by rw [ho 24 (by decide)]; exact a2⟩, by rw [hk 4 (by decide) (by decide) (by decide)]; exact a3, by rw [hk 5 (by decide) (by decide) (by decide)]; exact a4, ⟨by rw [hk 7 (by decide) (by decide) (by decide)]; exact a5, fun k hk' => by rw [ho 25 (by decide)]; exact a6 k hk'⟩, by rw [hk 8 (by decide) (by decide) (by decide)]; exact a7, a8, a9⟩, ⟨j1, j2, j3⟩, hx⟩
theorem c_X2_sortAt {G : GX} {S : Shp} {I : Mem} {b : Nat → Int32} {d n p : Nat} (hsh : SHP S) (h22 : I 23 1 = nI n) (h23 : I 24 = b) (hn : n ≤ 96) (hp : p ≤ 96) : PM G yX2_sortAt cX2_sortAt 3 (some .int) d 0 0 [.ref 22, .int (nI p)] S I (Rm S I (nI (sAt b n p))) := by
  refine PM.of (ls := [some (.ref 22), some (.int (nI p)), none]) (by decide) rfl (Nat.le_of_ble_eq_true rfl) rfl ?_
  show PW G RX2 "sortAt" _ _ _ _ _ _ _ _ _ _ _ _
  by_cases q : p < n
  · have e : sAt b n p = if 97 ≤ b p ∧ b p ≤ 122 then 1 else if 48 ≤ b p ∧ b p ≤ 57 then 2 else 3 := if_neg (by omega)
    rw [e]
    refine P_iload1 (pc' := 1) dX2_sortAt_0 rfl ?_
    refine P_aload0 (pc' := 2) dX2_sortAt_1 rfl ?_
    refine P_getr (pc' := 5) dX2_sortAt_2 rfl fl_X2_12 rfl (l_22 hsh) (t_22 hsh) (q_22_0 hsh) ?_
    refine P_geti (pc' := 8) dX2_sortAt_5 rfl fl_X2_81 rfl (l_23 hsh) (t_23 hsh) ?_
    refine P_as h22 ?_
    refine P_icmp_lt (tgt := 13) (pc' := 11) dX2_sortAt_8 rfl rfl (fun h8 => ?_) (fun h8 => ?_)
    · refine P_aload0 (pc' := 14) dX2_sortAt_13 rfl ?_
      refine P_getr (pc' := 17) dX2_sortAt_14 rfl fl_X2_12 rfl (l_22 hsh) (t_22 hsh) (q_22_0 hsh) ?_
      refine P_getr (pc' := 20) dX2_sortAt_17 rfl fl_X2_84 rfl (l_23 hsh) (t_23 hsh) (q_23_0 hsh) ?_
      refine P_iload1 (pc' := 21) dX2_sortAt_20 rfl ?_
      refine P_bald (pc' := 22) dX2_sortAt_21 rfl (l_24 hsh) (t_24 hsh) (j := p) rfl (by omega) (by decide) ?_
      rw [h23]
      refine P_istore2 (pc' := 23) dX2_sortAt_22 rfl (by decide) rfl ?_
      refine P_iload2 (pc' := 24) dX2_sortAt_23 rfl ?_
      refine P_bipush (pc' := 26) dX2_sortAt_24 rfl (v := 97) rfl ?_
      refine P_icmp_lt (tgt := 37) (pc' := 29) dX2_sortAt_26 rfl rfl (fun h26 => ?_) (fun h26 => ?_)
      · refine P_iload2 (pc' := 38) dX2_sortAt_37 rfl ?_
        refine P_bipush (pc' := 40) dX2_sortAt_38 rfl (v := 48) rfl ?_
        refine P_icmp_lt (tgt := 53) (pc' := 43) dX2_sortAt_40 rfl rfl (fun h40 => ?_) (fun h40 => ?_)
        · refine P_iconst (pc' := 54) dX2_sortAt_53 rfl (v := 3) rfl ?_
          refine P_iret dX2_sortAt_54 ?_
          first
            | (rw [if_pos (And.intro (Int32.not_lt.mp h26) (Int32.not_lt.mp h32))]; exact ⟨rfl, rfl, rfl⟩)
            | (rw [if_neg (fun z => absurd z.1 (Int32.not_le.mpr h26)), if_pos (And.intro (Int32.not_lt.mp h40) (Int32.not_lt.mp h46))]; exact ⟨rfl, rfl, rfl⟩)
            | (rw [if_neg (fun z => absurd z.1 (Int32.not_le.mpr h26)), if_neg (fun z => absurd z.1 (Int32.not_le.mpr h40))]; exact ⟨rfl, rfl, rfl⟩)
            | (rw [if_neg (fun z => absurd z.1 (Int32.not_le.mpr h26)), if_neg (fun z => absurd z.2 (Int32.not_le.mpr h46))]; exact ⟨rfl, rfl, rfl⟩)
            | (rw [if_neg (fun z => absurd z.2 (Int32.not_le.mpr h32)), if_pos (And.intro (Int32.not_lt.mp h40) (Int32.not_lt.mp h46))]; exact ⟨rfl, rfl, rfl⟩)
            | (rw [if_neg (fun z => absurd z.2 (Int32.not_le.mpr h32)), if_neg (fun z => absurd z.1 (Int32.not_le.mpr h40))]; exact ⟨rfl, rfl, rfl⟩)
            | (rw [if_neg (fun z => absurd z.2 (Int32.not_le.mpr h32)), if_neg (fun z => absurd z.2 (Int32.not_le.mpr h46))]; exact ⟨rfl, rfl, rfl⟩)
        · refine P_iload2 (pc' := 44) dX2_sortAt_43 rfl ?_
          refine P_bipush (pc' := 46) dX2_sortAt_44 rfl (v := 57) rfl ?_
          refine P_icmp_gt (tgt := 53) (pc' := 49) dX2_sortAt_46 rfl rfl (fun h46 => ?_) (fun h46 => ?_)
          · refine P_iconst (pc' := 54) dX2_sortAt_53 rfl (v := 3) rfl ?_
            refine P_iret dX2_sortAt_54 ?_
            first
              | (rw [if_pos (And.intro (Int32.not_lt.mp h26) (Int32.not_lt.mp h32))]; exact ⟨rfl, rfl, rfl⟩)
              | (rw [if_neg (fun z => absurd z.1 (Int32.not_le.mpr h26)), if_pos (And.intro (Int32.not_lt.mp h40) (Int32.not_lt.mp h46))]; exact ⟨rfl, rfl, rfl⟩)
              | (rw [if_neg (fun z => absurd z.1 (Int32.not_le.mpr h26)), if_neg (fun z => absurd z.1 (Int32.not_le.mpr h40))]; exact ⟨rfl, rfl, rfl⟩)
              | (rw [if_neg (fun z => absurd z.1 (Int32.not_le.mpr h26)), if_neg (fun z => absurd z.2 (Int32.not_le.mpr h46))]; exact ⟨rfl, rfl, rfl⟩)
              | (rw [if_neg (fun z => absurd z.2 (Int32.not_le.mpr h32)), if_pos (And.intro (Int32.not_lt.mp h40) (Int32.not_lt.mp h46))]; exact ⟨rfl, rfl, rfl⟩)
              | (rw [if_neg (fun z => absurd z.2 (Int32.not_le.mpr h32)), if_neg (fun z => absurd z.1 (Int32.not_le.mpr h40))]; exact ⟨rfl, rfl, rfl⟩)
              | (rw [if_neg (fun z => absurd z.2 (Int32.not_le.mpr h32)), if_neg (fun z => absurd z.2 (Int32.not_le.mpr h46))]; exact ⟨rfl, rfl, rfl⟩)
          · refine P_iconst (pc' := 50) dX2_sortAt_49 rfl (v := 2) rfl ?_
            refine P_goto (tgt := 54) dX2_sortAt_50 rfl ?_
            refine P_iret dX2_sortAt_54 ?_
            first
              | (rw [if_pos (And.intro (Int32.not_lt.mp h26) (Int32.not_lt.mp h32))]; exact ⟨rfl, rfl, rfl⟩)
              | (rw [if_neg (fun z => absurd z.1 (Int32.not_le.mpr h26)), if_pos (And.intro (Int32.not_lt.mp h40) (Int32.not_lt.mp h46))]; exact ⟨rfl, rfl, rfl⟩)
              | (rw [if_neg (fun z => absurd z.1 (Int32.not_le.mpr h26)), if_neg (fun z => absurd z.1 (Int32.not_le.mpr h40))]; exact ⟨rfl, rfl, rfl⟩)
              | (rw [if_neg (fun z => absurd z.1 (Int32.not_le.mpr h26)), if_neg (fun z => absurd z.2 (Int32.not_le.mpr h46))]; exact ⟨rfl, rfl, rfl⟩)
              | (rw [if_neg (fun z => absurd z.2 (Int32.not_le.mpr h32)), if_pos (And.intro (Int32.not_lt.mp h40) (Int32.not_lt.mp h46))]; exact ⟨rfl, rfl, rfl⟩)
              | (rw [if_neg (fun z => absurd z.2 (Int32.not_le.mpr h32)), if_neg (fun z => absurd z.1 (Int32.not_le.mpr h40))]; exact ⟨rfl, rfl, rfl⟩)
              | (rw [if_neg (fun z => absurd z.2 (Int32.not_le.mpr h32)), if_neg (fun z => absurd z.2 (Int32.not_le.mpr h46))]; exact ⟨rfl, rfl, rfl⟩)
      · refine P_iload2 (pc' := 30) dX2_sortAt_29 rfl ?_
        refine P_bipush (pc' := 32) dX2_sortAt_30 rfl (v := 122) rfl ?_
        refine P_icmp_gt (tgt := 37) (pc' := 35) dX2_sortAt_32 rfl rfl (fun h32 => ?_) (fun h32 => ?_)
        · refine P_iload2 (pc' := 38) dX2_sortAt_37 rfl ?_
          refine P_bipush (pc' := 40) dX2_sortAt_38 rfl (v := 48) rfl ?_
          refine P_icmp_lt (tgt := 53) (pc' := 43) dX2_sortAt_40 rfl rfl (fun h40 => ?_) (fun h40 => ?_)
          · refine P_iconst (pc' := 54) dX2_sortAt_53 rfl (v := 3) rfl ?_
            refine P_iret dX2_sortAt_54 ?_
            first
              | (rw [if_pos (And.intro (Int32.not_lt.mp h26) (Int32.not_lt.mp h32))]; exact ⟨rfl, rfl, rfl⟩)
              | (rw [if_neg (fun z => absurd z.1 (Int32.not_le.mpr h26)), if_pos (And.intro (Int32.not_lt.mp h40) (Int32.not_lt.mp h46))]; exact ⟨rfl, rfl, rfl⟩)
              | (rw [if_neg (fun z => absurd z.1 (Int32.not_le.mpr h26)), if_neg (fun z => absurd z.1 (Int32.not_le.mpr h40))]; exact ⟨rfl, rfl, rfl⟩)
              | (rw [if_neg (fun z => absurd z.1 (Int32.not_le.mpr h26)), if_neg (fun z => absurd z.2 (Int32.not_le.mpr h46))]; exact ⟨rfl, rfl, rfl⟩)
              | (rw [if_neg (fun z => absurd z.2 (Int32.not_le.mpr h32)), if_pos (And.intro (Int32.not_lt.mp h40) (Int32.not_lt.mp h46))]; exact ⟨rfl, rfl, rfl⟩)
              | (rw [if_neg (fun z => absurd z.2 (Int32.not_le.mpr h32)), if_neg (fun z => absurd z.1 (Int32.not_le.mpr h40))]; exact ⟨rfl, rfl, rfl⟩)
              | (rw [if_neg (fun z => absurd z.2 (Int32.not_le.mpr h32)), if_neg (fun z => absurd z.2 (Int32.not_le.mpr h46))]; exact ⟨rfl, rfl, rfl⟩)
          · refine P_iload2 (pc' := 44) dX2_sortAt_43 rfl ?_
            refine P_bipush (pc' := 46) dX2_sortAt_44 rfl (v := 57) rfl ?_
            refine P_icmp_gt (tgt := 53) (pc' := 49) dX2_sortAt_46 rfl rfl (fun h46 => ?_) (fun h46 => ?_)
            · refine P_iconst (pc' := 54) dX2_sortAt_53 rfl (v := 3) rfl ?_
              refine P_iret dX2_sortAt_54 ?_
              first
                | (rw [if_pos (And.intro (Int32.not_lt.mp h26) (Int32.not_lt.mp h32))]; exact ⟨rfl, rfl, rfl⟩)
                | (rw [if_neg (fun z => absurd z.1 (Int32.not_le.mpr h26)), if_pos (And.intro (Int32.not_lt.mp h40) (Int32.not_lt.mp h46))]; exact ⟨rfl, rfl, rfl⟩)
                | (rw [if_neg (fun z => absurd z.1 (Int32.not_le.mpr h26)), if_neg (fun z => absurd z.1 (Int32.not_le.mpr h40))]; exact ⟨rfl, rfl, rfl⟩)
                | (rw [if_neg (fun z => absurd z.1 (Int32.not_le.mpr h26)), if_neg (fun z => absurd z.2 (Int32.not_le.mpr h46))]; exact ⟨rfl, rfl, rfl⟩)
                | (rw [if_neg (fun z => absurd z.2 (Int32.not_le.mpr h32)), if_pos (And.intro (Int32.not_lt.mp h40) (Int32.not_lt.mp h46))]; exact ⟨rfl, rfl, rfl⟩)
                | (rw [if_neg (fun z => absurd z.2 (Int32.not_le.mpr h32)), if_neg (fun z => absurd z.1 (Int32.not_le.mpr h40))]; exact ⟨rfl, rfl, rfl⟩)
                | (rw [if_neg (fun z => absurd z.2 (Int32.not_le.mpr h32)), if_neg (fun z => absurd z.2 (Int32.not_le.mpr h46))]; exact ⟨rfl, rfl, rfl⟩)
            · refine P_iconst (pc' := 50) dX2_sortAt_49 rfl (v := 2) rfl ?_
              refine P_goto (tgt := 54) dX2_sortAt_50 rfl ?_
              refine P_iret dX2_sortAt_54 ?_
              first
                | (rw [if_pos (And.intro (Int32.not_lt.mp h26) (Int32.not_lt.mp h32))]; exact ⟨rfl, rfl, rfl⟩)
                | (rw [if_neg (fun z => absurd z.1 (Int32.not_le.mpr h26)), if_pos (And.intro (Int32.not_lt.mp h40) (Int32.not_lt.mp h46))]; exact ⟨rfl, rfl, rfl⟩)
                | (rw [if_neg (fun z => absurd z.1 (Int32.not_le.mpr h26)), if_neg (fun z => absurd z.1 (Int32.not_le.mpr h40))]; exact ⟨rfl, rfl, rfl⟩)
                | (rw [if_neg (fun z => absurd z.1 (Int32.not_le.mpr h26)), if_neg (fun z => absurd z.2 (Int32.not_le.mpr h46))]; exact ⟨rfl, rfl, rfl⟩)
                | (rw [if_neg (fun z => absurd z.2 (Int32.not_le.mpr h32)), if_pos (And.intro (Int32.not_lt.mp h40) (Int32.not_lt.mp h46))]; exact ⟨rfl, rfl, rfl⟩)
                | (rw [if_neg (fun z => absurd z.2 (Int32.not_le.mpr h32)), if_neg (fun z => absurd z.1 (Int32.not_le.mpr h40))]; exact ⟨rfl, rfl, rfl⟩)
                | (rw [if_neg (fun z => absurd z.2 (Int32.not_le.mpr h32)), if_neg (fun z => absurd z.2 (Int32.not_le.mpr h46))]; exact ⟨rfl, rfl, rfl⟩)
        · refine P_iconst (pc' := 36) dX2_sortAt_35 rfl (v := 1) rfl ?_
          refine P_iret dX2_sortAt_36 ?_
          first
            | (rw [if_pos (And.intro (Int32.not_lt.mp h26) (Int32.not_lt.mp h32))]; exact ⟨rfl, rfl, rfl⟩)
            | (rw [if_neg (fun z => absurd z.1 (Int32.not_le.mpr h26)), if_pos (And.intro (Int32.not_lt.mp h40) (Int32.not_lt.mp h46))]; exact ⟨rfl, rfl, rfl⟩)
            | (rw [if_neg (fun z => absurd z.1 (Int32.not_le.mpr h26)), if_neg (fun z => absurd z.1 (Int32.not_le.mpr h40))]; exact ⟨rfl, rfl, rfl⟩)
            | (rw [if_neg (fun z => absurd z.1 (Int32.not_le.mpr h26)), if_neg (fun z => absurd z.2 (Int32.not_le.mpr h46))]; exact ⟨rfl, rfl, rfl⟩)
            | (rw [if_neg (fun z => absurd z.2 (Int32.not_le.mpr h32)), if_pos (And.intro (Int32.not_lt.mp h40) (Int32.not_lt.mp h46))]; exact ⟨rfl, rfl, rfl⟩)
            | (rw [if_neg (fun z => absurd z.2 (Int32.not_le.mpr h32)), if_neg (fun z => absurd z.1 (Int32.not_le.mpr h40))]; exact ⟨rfl, rfl, rfl⟩)
            | (rw [if_neg (fun z => absurd z.2 (Int32.not_le.mpr h32)), if_neg (fun z => absurd z.2 (Int32.not_le.mpr h46))]; exact ⟨rfl, rfl, rfl⟩)
    · exact absurd (nI_lt q (by omega)) h8
  · rw [show sAt b n p = 0 from if_pos (by omega)]
    refine P_iload1 (pc' := 1) dX2_sortAt_0 rfl ?_
    refine P_aload0 (pc' := 2) dX2_sortAt_1 rfl ?_
    refine P_getr (pc' := 5) dX2_sortAt_2 rfl fl_X2_12 rfl (l_22 hsh) (t_22 hsh) (q_22_0 hsh) ?_
    refine P_geti (pc' := 8) dX2_sortAt_5 rfl fl_X2_81 rfl (l_23 hsh) (t_23 hsh) ?_
    refine P_as h22 ?_
    refine P_icmp_lt (tgt := 13) (pc' := 11) dX2_sortAt_8 rfl rfl (fun h8 => ?_) (fun h8 => ?_)
    · exact absurd h8 (nI_nlt (by omega) (by omega))
    · refine P_iconst (pc' := 12) dX2_sortAt_11 rfl (v := 0) rfl ?_
      refine P_iret dX2_sortAt_12 ?_
      exact ⟨rfl, rfl, rfl⟩
theorem lp_X2_a1 {G : GX} {S : Shp} {I : Mem} {b : Nat → Int32} {d n : Nat} {Q : Option Value → Shp → Mem → Prop} {l1 : Option Value} {l2 : Int32} (hsh : SHP S) (h22 : I 23 1 = nI n) (h23 : I 24 = b) (hn : n ≤ 96) : ∀ (k p : Nat), p + k = n → (∀ x3, PW G RX2 "advance" cX2_advance 4 none d 0 0 Q 72 [some (.ref 22), l1, some (.int l2), x3] [] S (u2 I 22 2 (nI (skp b n k p)))) → PW G RX2 "advance" cX2_advance 4 none d 0 0 Q 34 [some (.ref 22), l1, some (.int l2), some (.int (nI p))] [] S (u2 I 22 2 (nI p)) := by
  intro k
  induction k with
  | zero =>
    intro p hp hQ
    refine P_iload3 (pc' := 35) dX2_advance_34 rfl ?_
    refine P_aload0 (pc' := 36) dX2_advance_35 rfl ?_
    refine P_getr (pc' := 39) dX2_advance_36 rfl fl_X2_12 rfl (l_22 hsh) (t_22 hsh) (q_22_0 hsh) ?_
    refine P_geti (pc' := 42) dX2_advance_39 rfl fl_X2_81 rfl (l_23 hsh) (t_23 hsh) ?_
    refine P_as (y := nI n) (by rw [u2_a (by decide)]; exact h22) ?_
    refine P_icmp_ge (tgt := 72) (pc' := 45) dX2_advance_42 rfl rfl (fun h42 => ?_) (fun h42 => ?_)
    · exact hQ _
    · exact absurd (nI_le (by omega) (by omega)) h42
  | succ k ih =>
    intro p hp hQ
    rw [skp_s] at hQ
    refine P_iload3 (pc' := 35) dX2_advance_34 rfl ?_
    refine P_aload0 (pc' := 36) dX2_advance_35 rfl ?_
    refine P_getr (pc' := 39) dX2_advance_36 rfl fl_X2_12 rfl (l_22 hsh) (t_22 hsh) (q_22_0 hsh) ?_
    refine P_geti (pc' := 42) dX2_advance_39 rfl fl_X2_81 rfl (l_23 hsh) (t_23 hsh) ?_
    refine P_as (y := nI n) (by rw [u2_a (by decide)]; exact h22) ?_
    refine P_icmp_ge (tgt := 72) (pc' := 45) dX2_advance_42 rfl rfl (fun h42 => ?_) (fun h42 => ?_)
    · exact absurd h42 (nI_ge (by omega) (by omega))
    · refine P_aload0 (pc' := 46) dX2_advance_45 rfl ?_
      refine P_getr (pc' := 49) dX2_advance_46 rfl fl_X2_12 rfl (l_22 hsh) (t_22 hsh) (q_22_0 hsh) ?_
      refine P_getr (pc' := 52) dX2_advance_49 rfl fl_X2_84 rfl (l_23 hsh) (t_23 hsh) (q_23_0 hsh) ?_
      refine P_iload3 (pc' := 53) dX2_advance_52 rfl ?_
      refine P_bald (pc' := 54) dX2_advance_53 rfl (l_24 hsh) (t_24 hsh) (j := p) rfl (by omega) (by decide) ?_
      refine P_as (y := b p) (by rw [u2_a (by decide), h23]) ?_
      refine P_bipush (pc' := 56) dX2_advance_54 rfl (v := 32) rfl ?_
      refine P_icmp_ne (tgt := 72) (pc' := 59) dX2_advance_56 rfl rfl (fun h56 => ?_) (fun h56 => ?_)
      · rw [if_neg (fun z => h56 z.2)] at hQ
        exact hQ _
      · refine P_aload0 (pc' := 60) dX2_advance_59 rfl ?_
        refine P_iload3 (pc' := 61) dX2_advance_60 rfl ?_
        refine P_iconst (pc' := 62) dX2_advance_61 rfl (v := 1) rfl ?_
        refine P_iadd (pc' := 63) dX2_advance_62 rfl ?_
        refine P_as (nI_1 p) ?_
        refine P_puti (pc' := 66) dX2_advance_63 rfl fl_X2_22 rfl (l_22 hsh) (t_22 hsh) ?_
        refine P_iinc3 (pc' := 69) dX2_advance_66 rfl (nI_1 p) (by decide) rfl ?_
        refine P_goto (tgt := 34) dX2_advance_69 rfl ?_
        rw [if_pos ⟨by omega, h56⟩] at hQ
        rw [u2_u2]
        exact ih (p + 1) (by omega) hQ
theorem lp_X2_a2 {G : GX} {S : Shp} {I : Mem} {b : Nat → Int32} {d n s : Nat} {Q : Option Value → Shp → Mem → Prop} {l1 : Option Value} {l2 : Int32} (hsh : SHP S) (h22 : I 23 1 = nI n) (h23 : I 24 = b) (h24 : I 22 1 = nI s) (hs : s ≤ 4) (hn : n ≤ 96) (hd : 1 ≤ d) : ∀ (k q : Nat), q + k = n → (∀ x3, PW G RX2 "advance" cX2_advance 4 none d 0 0 Q 161 [some (.ref 22), l1, some (.int l2), x3] [] S (u2 I 22 3 (nI (wrd b n s k q)))) → PW G RX2 "advance" cX2_advance 4 none d 0 0 Q 125 [some (.ref 22), l1, some (.int l2), some (.int (nI q))] [] S (u2 I 22 3 (nI q)) := by
  intro k
  induction k with
  | zero =>
    intro q hq hQ
    refine P_iload3 (pc' := 126) dX2_advance_125 rfl ?_
    refine P_aload0 (pc' := 127) dX2_advance_126 rfl ?_
    refine P_getr (pc' := 130) dX2_advance_127 rfl fl_X2_12 rfl (l_22 hsh) (t_22 hsh) (q_22_0 hsh) ?_
    refine P_geti (pc' := 133) dX2_advance_130 rfl fl_X2_81 rfl (l_23 hsh) (t_23 hsh) ?_
    refine P_as (y := nI n) (by rw [u2_a (by decide)]; exact h22) ?_
    refine P_icmp_ge (tgt := 161) (pc' := 136) dX2_advance_133 rfl rfl (fun h133 => ?_) (fun h133 => ?_)
    · exact hQ _
    · exact absurd (nI_le (by omega) (by omega)) h133
  | succ k ih =>
    intro q hq hQ
    rw [wrd_s] at hQ
    have s3 := sAt_le b n q
    refine P_iload3 (pc' := 126) dX2_advance_125 rfl ?_
    refine P_aload0 (pc' := 127) dX2_advance_126 rfl ?_
    refine P_getr (pc' := 130) dX2_advance_127 rfl fl_X2_12 rfl (l_22 hsh) (t_22 hsh) (q_22_0 hsh) ?_
    refine P_geti (pc' := 133) dX2_advance_130 rfl fl_X2_81 rfl (l_23 hsh) (t_23 hsh) ?_
    refine P_as (y := nI n) (by rw [u2_a (by decide)]; exact h22) ?_
    refine P_icmp_ge (tgt := 161) (pc' := 136) dX2_advance_133 rfl rfl (fun h133 => ?_) (fun h133 => ?_)
    · exact absurd h133 (nI_ge (by omega) (by omega))
    · refine P_aload0 (pc' := 137) dX2_advance_136 rfl ?_
      refine P_iload3 (pc' := 138) dX2_advance_137 rfl ?_
      refine P_callV1 (pc' := 141) dX2_advance_138 rfl lk_X2_88 (l_22 hsh) (t_22 hsh) (c_X2_sortAt (d := 0) (b := b) (n := n) hsh (by rw [u2_a (by decide)]; exact h22) (by rw [u2_row (by decide)]; exact h23) hn (by omega)) (by omega) (Nat.le_of_ble_eq_true rfl) (fun r S' I' hq => ?_)
      obtain ⟨rfl, rfl, rfl⟩ := hq
      refine P_aload0 (pc' := 142) dX2_advance_141 rfl ?_
      refine P_geti (pc' := 145) dX2_advance_142 rfl fl_X2_18 rfl (l_22 hsh) (t_22 hsh) ?_
      refine P_as (y := nI s) (by rw [u2_k (by decide)]; exact h24) ?_
      refine P_icmp_ne (tgt := 161) (pc' := 148) dX2_advance_145 rfl rfl (fun h145 => ?_) (fun h145 => ?_)
      · rw [if_neg (fun z => h145 (by rw [z.2]))] at hQ
        exact hQ _
      · refine P_aload0 (pc' := 149) dX2_advance_148 rfl ?_
        refine P_iload3 (pc' := 150) dX2_advance_149 rfl ?_
        refine P_iconst (pc' := 151) dX2_advance_150 rfl (v := 1) rfl ?_
        refine P_iadd (pc' := 152) dX2_advance_151 rfl ?_
        refine P_as (nI_1 q) ?_
        refine P_puti (pc' := 155) dX2_advance_152 rfl fl_X2_25 rfl (l_22 hsh) (t_22 hsh) ?_
        refine P_iinc3 (pc' := 158) dX2_advance_155 rfl (nI_1 q) (by decide) rfl ?_
        refine P_goto (tgt := 125) dX2_advance_158 rfl ?_
        rw [if_pos ⟨by omega, (nI_eq (by omega) (by omega)).mp h145⟩] at hQ
        rw [u2_u2]
        exact ih (q + 1) (by omega) hQ
theorem u2_id (I : Mem) (a k : Nat) : u2 I a k (I a k) = I := by
  funext x y
  unfold u2
  split
  · rename_i h; rw [h.1, h.2]
  · rfl
theorem k_X2_advance {G : GX} {S : Shp} {I0 I : Mem} {b : Nat → Int32} {d n k e p : Nat} {ky : Int32} {t : Option Nat × List Int32 × Nat} {x3 : Option Value} (hsh : SHP S) (hn : n ≤ 96) (hp : p ≤ n) (he : e ≤ n) (hR : RdR b n ky t I0) (hI : I = u2 I0 22 2 (nI p)) (hX : WOk b n (lxS b n k e p)) (hd : 2 ≤ d) : PW G RX2 "advance" cX2_advance 4 none d 0 0 (fun r S' J => r = none ∧ S = S' ∧ RdI b n ky (lxS b n k e p, t) J ∧ ∀ x, x ≠ 22 → J x = I0 x) 72 [some (.ref 22), some (.int (if k = 1 ∨ k = 2 then 1 else 0)), some (.int (nI e)), x3] [] S I := by
  subst hI
  obtain ⟨⟨h22, h23⟩, -⟩ := id hR
  have s3 := sAt_le b n p
  by_cases q3 : sAt b n p = 3
  · have el : lxS b n k e p = (3, p, p + 1) := if_pos q3
    rw [el] at hX ⊢
    refine P_aload0 (pc' := 73) dX2_advance_72 rfl ?_
    refine P_aload0 (pc' := 74) dX2_advance_73 rfl ?_
    refine P_geti (pc' := 77) dX2_advance_74 rfl fl_X2_22 rfl (l_22 hsh) (t_22 hsh) ?_
    refine P_as (u2_s _ _ _ _) ?_
    refine P_puti (pc' := 80) dX2_advance_77 rfl fl_X2_25 rfl (l_22 hsh) (t_22 hsh) ?_
    refine P_aload0 (pc' := 81) dX2_advance_80 rfl ?_
    refine P_aload0 (pc' := 82) dX2_advance_81 rfl ?_
    refine P_aload0 (pc' := 83) dX2_advance_82 rfl ?_
    refine P_geti (pc' := 86) dX2_advance_83 rfl fl_X2_22 rfl (l_22 hsh) (t_22 hsh) ?_
    refine P_as (y := nI p) (by rw [u2_k (by decide), u2_s]) ?_
    refine P_callV1 (pc' := 89) dX2_advance_86 rfl lk_X2_88 (l_22 hsh) (t_22 hsh) (c_X2_sortAt (d := 1) (b := b) (n := n) hsh (by rw [u2_a (by decide), u2_a (by decide)]; exact h22) (by rw [u2_row (by decide), u2_row (by decide)]; exact h23) hn (by omega)) (by omega) (Nat.le_of_ble_eq_true rfl) (fun r S' I' hq => ?_)
    obtain ⟨rfl, rfl, rfl⟩ := hq
    rw [q3]
    refine P_puti (pc' := 92) dX2_advance_89 rfl fl_X2_18 rfl (l_22 hsh) (t_22 hsh) ?_
    refine P_aload0 (pc' := 93) dX2_advance_92 rfl ?_
    refine P_geti (pc' := 96) dX2_advance_93 rfl fl_X2_18 rfl (l_22 hsh) (t_22 hsh) ?_
    refine P_as (u2_s _ _ _ _) ?_
    refine P_iconst (pc' := 97) dX2_advance_96 rfl (v := 3) rfl ?_
    refine P_icmp_ne (tgt := 113) (pc' := 100) dX2_advance_97 rfl rfl (fun h97 => ?_) (fun h97 => ?_)
    · exact absurd rfl h97
    · refine P_aload0 (pc' := 101) dX2_advance_100 rfl ?_
      refine P_aload0 (pc' := 102) dX2_advance_101 rfl ?_
      refine P_geti (pc' := 105) dX2_advance_102 rfl fl_X2_22 rfl (l_22 hsh) (t_22 hsh) ?_
      refine P_as (y := nI p) (by rw [u2_k (by decide), u2_k (by decide), u2_s]) ?_
      refine P_iconst (pc' := 106) dX2_advance_105 rfl (v := 1) rfl ?_
      refine P_iadd (pc' := 107) dX2_advance_106 rfl ?_
      refine P_as (nI_1 p) ?_
      refine P_puti (pc' := 110) dX2_advance_107 rfl fl_X2_25 rfl (l_22 hsh) (t_22 hsh) ?_
      refine P_goto (tgt := 178) dX2_advance_110 rfl ?_
      refine P_vret dX2_advance_178 ?_
      refine ⟨rfl, rfl, hR.lx hX ?_ ?_ ?_ (fun k h1 h2 h3 => ?_) (fun y hy => ?_), fun x hx => ?_⟩
      · rw [u2_k (by decide), u2_s]
      · rw [u2_k (by decide), u2_k (by decide), u2_k (by decide), u2_s]
      · rw [u2_s]
      · rw [u2_k h3, u2_k h1, u2_k h3, u2_k h2]
      · rw [u2_row hy, u2_row hy, u2_row hy, u2_row hy]
      · rw [u2_row hx, u2_row hx, u2_row hx, u2_row hx]
  by_cases q0 : sAt b n p = 0
  · have el : lxS b n k e p = (0, p, p) := (if_neg q3).trans (if_pos q0)
    rw [el] at hX ⊢
    refine P_aload0 (pc' := 73) dX2_advance_72 rfl ?_
    refine P_aload0 (pc' := 74) dX2_advance_73 rfl ?_
    refine P_geti (pc' := 77) dX2_advance_74 rfl fl_X2_22 rfl (l_22 hsh) (t_22 hsh) ?_
    refine P_as (u2_s _ _ _ _) ?_
    refine P_puti (pc' := 80) dX2_advance_77 rfl fl_X2_25 rfl (l_22 hsh) (t_22 hsh) ?_
    refine P_aload0 (pc' := 81) dX2_advance_80 rfl ?_
    refine P_aload0 (pc' := 82) dX2_advance_81 rfl ?_
    refine P_aload0 (pc' := 83) dX2_advance_82 rfl ?_
    refine P_geti (pc' := 86) dX2_advance_83 rfl fl_X2_22 rfl (l_22 hsh) (t_22 hsh) ?_
    refine P_as (y := nI p) (by rw [u2_k (by decide), u2_s]) ?_
    refine P_callV1 (pc' := 89) dX2_advance_86 rfl lk_X2_88 (l_22 hsh) (t_22 hsh) (c_X2_sortAt (d := 1) (b := b) (n := n) hsh (by rw [u2_a (by decide), u2_a (by decide)]; exact h22) (by rw [u2_row (by decide), u2_row (by decide)]; exact h23) hn (by omega)) (by omega) (Nat.le_of_ble_eq_true rfl) (fun r S' I' hq => ?_)
    obtain ⟨rfl, rfl, rfl⟩ := hq
    rw [q0]
    refine P_puti (pc' := 92) dX2_advance_89 rfl fl_X2_18 rfl (l_22 hsh) (t_22 hsh) ?_
    refine P_aload0 (pc' := 93) dX2_advance_92 rfl ?_
    refine P_geti (pc' := 96) dX2_advance_93 rfl fl_X2_18 rfl (l_22 hsh) (t_22 hsh) ?_
    refine P_as (u2_s _ _ _ _) ?_
    refine P_iconst (pc' := 97) dX2_advance_96 rfl (v := 3) rfl ?_
    refine P_icmp_ne (tgt := 113) (pc' := 100) dX2_advance_97 rfl rfl (fun h97 => ?_) (fun h97 => ?_)
    · refine P_aload0 (pc' := 114) dX2_advance_113 rfl ?_
      refine P_geti (pc' := 117) dX2_advance_114 rfl fl_X2_18 rfl (l_22 hsh) (t_22 hsh) ?_
      refine P_as (u2_s _ _ _ _) ?_
      refine P_if_eq (tgt := 178) (pc' := 120) dX2_advance_117 rfl rfl (fun h117 => ?_) (fun h117 => ?_)
      · refine P_vret dX2_advance_178 ?_
        refine ⟨rfl, rfl, hR.lx hX ?_ ?_ ?_ (fun k h1 h2 h3 => ?_) (fun y hy => ?_), fun x hx => ?_⟩
        · rw [u2_s]
        · rw [u2_k (by decide), u2_k (by decide), u2_s]
        · rw [u2_k (by decide), u2_s]
        · rw [u2_k h1, u2_k h3, u2_k h2]
        · rw [u2_row hy, u2_row hy, u2_row hy]
        · rw [u2_row hx, u2_row hx, u2_row hx]
      · exact absurd rfl h117
    · exact absurd h97 (by decide)
  have el : lxS b n k e p = (if (k = 1 ∨ k = 2) ∧ p = e then 4 else sAt b n p, p, wrd b n (sAt b n p) (n - p) p) := (if_neg q3).trans (if_neg q0)
  rw [el] at hX ⊢
  have fin : ∀ x3, PW G RX2 "advance" cX2_advance 4 none d 0 0 (fun r S' J => r = none ∧ S = S' ∧ RdI b n ky ((if (k = 1 ∨ k = 2) ∧ p = e then 4 else sAt b n p, p, wrd b n (sAt b n p) (n - p) p), t) J ∧ ∀ x, x ≠ 22 → J x = I0 x) 161 [some (.ref 22), some (.int (if k = 1 ∨ k = 2 then 1 else 0)), some (.int (nI e)), x3] [] S (u2 (u2 (u2 (u2 I0 22 2 (nI p)) 22 3 (nI p)) 22 1 (nI (sAt b n p))) 22 3 (nI (wrd b n (sAt b n p) (n - p) p))) := by
    intro x3
    refine P_iload1 (pc' := 162) dX2_advance_161 rfl ?_
    refine P_if_eq (tgt := 178) (pc' := 165) dX2_advance_162 rfl rfl (fun h162 => ?_) (fun h162 => ?_)
    · refine P_vret dX2_advance_178 ?_
      first
        | (have z : ¬ ((k = 1 ∨ k = 2) ∧ p = e) := fun z => by rw [if_pos z.1] at h162; exact absurd h162 (by decide)
           rw [if_neg z] at hX ⊢
           refine ⟨rfl, rfl, hR.lx hX ?_ ?_ ?_ (fun k h1 h2 h3 => ?_) (fun y hy => ?_), fun x hx => ?_⟩
           · rw [u2_k (by decide), u2_s]
           · rw [u2_k (by decide), u2_k (by decide), u2_k (by decide), u2_s]
           · rw [u2_s]
           · rw [u2_k h3, u2_k h1, u2_k h3, u2_k h2]
           · rw [u2_row hy, u2_row hy, u2_row hy, u2_row hy]
           · rw [u2_row hx, u2_row hx, u2_row hx, u2_row hx])
        | (have z : ¬ ((k = 1 ∨ k = 2) ∧ p = e) := fun z => h170 (by rw [z.2])
           rw [if_neg z] at hX ⊢
           refine ⟨rfl, rfl, hR.lx hX ?_ ?_ ?_ (fun k h1 h2 h3 => ?_) (fun y hy => ?_), fun x hx => ?_⟩
           · rw [u2_k (by decide), u2_s]
           · rw [u2_k (by decide), u2_k (by decide), u2_k (by decide), u2_s]
           · rw [u2_s]
           · rw [u2_k h3, u2_k h1, u2_k h3, u2_k h2]
           · rw [u2_row hy, u2_row hy, u2_row hy, u2_row hy]
           · rw [u2_row hx, u2_row hx, u2_row hx, u2_row hx])
        | (have z : (k = 1 ∨ k = 2) ∧ p = e := ⟨Classical.byContradiction (fun z => h162 (if_neg z)), (nI_eq (by omega) (by omega)).mp h170⟩
           rw [if_pos z] at hX ⊢
           refine ⟨rfl, rfl, hR.lx hX ?_ ?_ ?_ (fun k h1 h2 h3 => ?_) (fun y hy => ?_), fun x hx => ?_⟩
           · rw [u2_s]; rfl
           · rw [u2_k (by decide), u2_k (by decide), u2_k (by decide), u2_k (by decide), u2_s]
           · rw [u2_k (by decide), u2_s]
           · rw [u2_k h1, u2_k h3, u2_k h1, u2_k h3, u2_k h2]
           · rw [u2_row hy, u2_row hy, u2_row hy, u2_row hy, u2_row hy]
           · rw [u2_row hx, u2_row hx, u2_row hx, u2_row hx, u2_row hx])
    · refine P_aload0 (pc' := 166) dX2_advance_165 rfl ?_
      refine P_geti (pc' := 169) dX2_advance_166 rfl fl_X2_22 rfl (l_22 hsh) (t_22 hsh) ?_
      refine P_as (y := nI p) (by rw [u2_k (by decide), u2_k (by decide), u2_k (by decide), u2_s]) ?_
      refine P_iload2 (pc' := 170) dX2_advance_169 rfl ?_
      refine P_icmp_ne (tgt := 178) (pc' := 173) dX2_advance_170 rfl rfl (fun h170 => ?_) (fun h170 => ?_)
      · refine P_vret dX2_advance_178 ?_
        first
          | (have z : ¬ ((k = 1 ∨ k = 2) ∧ p = e) := fun z => by rw [if_pos z.1] at h162; exact absurd h162 (by decide)
             rw [if_neg z] at hX ⊢
             refine ⟨rfl, rfl, hR.lx hX ?_ ?_ ?_ (fun k h1 h2 h3 => ?_) (fun y hy => ?_), fun x hx => ?_⟩
             · rw [u2_k (by decide), u2_s]
             · rw [u2_k (by decide), u2_k (by decide), u2_k (by decide), u2_s]
             · rw [u2_s]
             · rw [u2_k h3, u2_k h1, u2_k h3, u2_k h2]
             · rw [u2_row hy, u2_row hy, u2_row hy, u2_row hy]
             · rw [u2_row hx, u2_row hx, u2_row hx, u2_row hx])
          | (have z : ¬ ((k = 1 ∨ k = 2) ∧ p = e) := fun z => h170 (by rw [z.2])
             rw [if_neg z] at hX ⊢
             refine ⟨rfl, rfl, hR.lx hX ?_ ?_ ?_ (fun k h1 h2 h3 => ?_) (fun y hy => ?_), fun x hx => ?_⟩
             · rw [u2_k (by decide), u2_s]
             · rw [u2_k (by decide), u2_k (by decide), u2_k (by decide), u2_s]
             · rw [u2_s]
             · rw [u2_k h3, u2_k h1, u2_k h3, u2_k h2]
             · rw [u2_row hy, u2_row hy, u2_row hy, u2_row hy]
             · rw [u2_row hx, u2_row hx, u2_row hx, u2_row hx])
          | (have z : (k = 1 ∨ k = 2) ∧ p = e := ⟨Classical.byContradiction (fun z => h162 (if_neg z)), (nI_eq (by omega) (by omega)).mp h170⟩
             rw [if_pos z] at hX ⊢
             refine ⟨rfl, rfl, hR.lx hX ?_ ?_ ?_ (fun k h1 h2 h3 => ?_) (fun y hy => ?_), fun x hx => ?_⟩
             · rw [u2_s]; rfl
             · rw [u2_k (by decide), u2_k (by decide), u2_k (by decide), u2_k (by decide), u2_s]
             · rw [u2_k (by decide), u2_s]
             · rw [u2_k h1, u2_k h3, u2_k h1, u2_k h3, u2_k h2]
             · rw [u2_row hy, u2_row hy, u2_row hy, u2_row hy, u2_row hy]
             · rw [u2_row hx, u2_row hx, u2_row hx, u2_row hx, u2_row hx])
      · refine P_aload0 (pc' := 174) dX2_advance_173 rfl ?_
        refine P_iconst (pc' := 175) dX2_advance_174 rfl (v := 4) rfl ?_
        refine P_puti (pc' := 178) dX2_advance_175 rfl fl_X2_18 rfl (l_22 hsh) (t_22 hsh) ?_
        refine P_vret dX2_advance_178 ?_
        first
          | (have z : ¬ ((k = 1 ∨ k = 2) ∧ p = e) := fun z => by rw [if_pos z.1] at h162; exact absurd h162 (by decide)
             rw [if_neg z] at hX ⊢
             refine ⟨rfl, rfl, hR.lx hX ?_ ?_ ?_ (fun k h1 h2 h3 => ?_) (fun y hy => ?_), fun x hx => ?_⟩
             · rw [u2_k (by decide), u2_s]
             · rw [u2_k (by decide), u2_k (by decide), u2_k (by decide), u2_s]
             · rw [u2_s]
             · rw [u2_k h3, u2_k h1, u2_k h3, u2_k h2]
             · rw [u2_row hy, u2_row hy, u2_row hy, u2_row hy]
             · rw [u2_row hx, u2_row hx, u2_row hx, u2_row hx])
          | (have z : ¬ ((k = 1 ∨ k = 2) ∧ p = e) := fun z => h170 (by rw [z.2])
             rw [if_neg z] at hX ⊢
             refine ⟨rfl, rfl, hR.lx hX ?_ ?_ ?_ (fun k h1 h2 h3 => ?_) (fun y hy => ?_), fun x hx => ?_⟩
             · rw [u2_k (by decide), u2_s]
             · rw [u2_k (by decide), u2_k (by decide), u2_k (by decide), u2_s]
             · rw [u2_s]
             · rw [u2_k h3, u2_k h1, u2_k h3, u2_k h2]
             · rw [u2_row hy, u2_row hy, u2_row hy, u2_row hy]
             · rw [u2_row hx, u2_row hx, u2_row hx, u2_row hx])
          | (have z : (k = 1 ∨ k = 2) ∧ p = e := ⟨Classical.byContradiction (fun z => h162 (if_neg z)), (nI_eq (by omega) (by omega)).mp h170⟩
             rw [if_pos z] at hX ⊢
             refine ⟨rfl, rfl, hR.lx hX ?_ ?_ ?_ (fun k h1 h2 h3 => ?_) (fun y hy => ?_), fun x hx => ?_⟩
             · rw [u2_s]; rfl
             · rw [u2_k (by decide), u2_k (by decide), u2_k (by decide), u2_k (by decide), u2_s]
             · rw [u2_k (by decide), u2_s]
             · rw [u2_k h1, u2_k h3, u2_k h1, u2_k h3, u2_k h2]
             · rw [u2_row hy, u2_row hy, u2_row hy, u2_row hy, u2_row hy]
             · rw [u2_row hx, u2_row hx, u2_row hx, u2_row hx, u2_row hx])
  refine P_aload0 (pc' := 73) dX2_advance_72 rfl ?_
  refine P_aload0 (pc' := 74) dX2_advance_73 rfl ?_
  refine P_geti (pc' := 77) dX2_advance_74 rfl fl_X2_22 rfl (l_22 hsh) (t_22 hsh) ?_
  refine P_as (u2_s _ _ _ _) ?_
  refine P_puti (pc' := 80) dX2_advance_77 rfl fl_X2_25 rfl (l_22 hsh) (t_22 hsh) ?_
  refine P_aload0 (pc' := 81) dX2_advance_80 rfl ?_
  refine P_aload0 (pc' := 82) dX2_advance_81 rfl ?_
  refine P_aload0 (pc' := 83) dX2_advance_82 rfl ?_
  refine P_geti (pc' := 86) dX2_advance_83 rfl fl_X2_22 rfl (l_22 hsh) (t_22 hsh) ?_
  refine P_as (y := nI p) (by rw [u2_k (by decide), u2_s]) ?_
  refine P_callV1 (pc' := 89) dX2_advance_86 rfl lk_X2_88 (l_22 hsh) (t_22 hsh) (c_X2_sortAt (d := 1) (b := b) (n := n) hsh (by rw [u2_a (by decide), u2_a (by decide)]; exact h22) (by rw [u2_row (by decide), u2_row (by decide)]; exact h23) hn (by omega)) (by omega) (Nat.le_of_ble_eq_true rfl) (fun r S' I' hq => ?_)
  obtain ⟨rfl, rfl, rfl⟩ := hq
  refine P_puti (pc' := 92) dX2_advance_89 rfl fl_X2_18 rfl (l_22 hsh) (t_22 hsh) ?_
  refine P_aload0 (pc' := 93) dX2_advance_92 rfl ?_
  refine P_geti (pc' := 96) dX2_advance_93 rfl fl_X2_18 rfl (l_22 hsh) (t_22 hsh) ?_
  refine P_as (u2_s _ _ _ _) ?_
  refine P_iconst (pc' := 97) dX2_advance_96 rfl (v := 3) rfl ?_
  refine P_icmp_ne (tgt := 113) (pc' := 100) dX2_advance_97 rfl rfl (fun h97 => ?_) (fun h97 => ?_)
  · refine P_aload0 (pc' := 114) dX2_advance_113 rfl ?_
    refine P_geti (pc' := 117) dX2_advance_114 rfl fl_X2_18 rfl (l_22 hsh) (t_22 hsh) ?_
    refine P_as (u2_s _ _ _ _) ?_
    refine P_if_eq (tgt := 178) (pc' := 120) dX2_advance_117 rfl rfl (fun h117 => ?_) (fun h117 => ?_)
    · exact absurd ((nI_eq (b := 0) (by omega) (by decide)).mp h117) q0
    · refine P_aload0 (pc' := 121) dX2_advance_120 rfl ?_
      refine P_geti (pc' := 124) dX2_advance_121 rfl fl_X2_22 rfl (l_22 hsh) (t_22 hsh) ?_
      refine P_as (y := nI p) (by rw [u2_k (by decide), u2_k (by decide), u2_s]) ?_
      refine P_istore3 (pc' := 125) dX2_advance_124 rfl (by decide) rfl ?_
      refine P_asM (I' := u2 (u2 (u2 (u2 I0 22 2 (nI p)) 22 3 (nI p)) 22 1 (nI (sAt b n p))) 22 3 (nI p)) ?_ ?_
      · have e : u2 (u2 (u2 I0 22 2 (nI p)) 22 3 (nI p)) 22 1 (nI (sAt b n p)) 22 3 = nI p := by rw [u2_k (by decide), u2_s]
        have e2 := u2_id (u2 (u2 (u2 I0 22 2 (nI p)) 22 3 (nI p)) 22 1 (nI (sAt b n p))) 22 3
        rw [e] at e2
        exact e2.symm
      · exact lp_X2_a2 (b := b) (s := sAt b n p) hsh (by rw [u2_a (by decide), u2_a (by decide), u2_a (by decide)]; exact h22) (by rw [u2_row (by decide), u2_row (by decide), u2_row (by decide)]; exact h23) (u2_s _ _ _ _) (by omega) hn (by omega) (n - p) p (by omega) fin
  · exact absurd ((nI_eq (b := 3) (by omega) (by decide)).mp h97) q3
theorem c_X2_advance {G : GX} {S : Shp} {I : Mem} {b : Nat → Int32} {d n k e : Nat} {ky : Int32} {t : Option Nat × List Int32 × Nat} (hsh : SHP S) (hn : n ≤ 96) (hR : RdR b n ky t I) (h1 : I 22 1 = nI k) (hk : k ≤ 4) (h3 : I 22 3 = nI e) (he : e ≤ n) (hd : 2 ≤ d) : PM G yX2_advance cX2_advance 4 none d 0 0 [.ref 22] S I (fun r S' J => r = none ∧ S = S' ∧ RdI b n ky (advL b n (k, 0, e), t) J ∧ ∀ x, x ≠ 22 → J x = I x) := by
  obtain ⟨⟨h22, h23⟩, -⟩ := id hR
  refine PM.of (ls := [some (.ref 22), none, none, none]) (by decide) rfl (Nat.le_of_ble_eq_true rfl) rfl ?_
  show PW G RX2 "advance" _ _ _ _ _ _ _ _ _ _ _ _
  have hx : WOk b n (advL b n (k, 0, e)) := WOk.adv (x := (k, 0, e)) he
  have key : PW G RX2 "advance" cX2_advance 4 none d 0 0 (fun r S' J => r = none ∧ S = S' ∧ RdI b n ky (advL b n (k, 0, e), t) J ∧ ∀ x, x ≠ 22 → J x = I x) 21 [some (.ref 22), none, none, none] [.int (if k = 1 ∨ k = 2 then 1 else 0)] S I := by
    refine P_istore1 (pc' := 22) dX2_advance_21 rfl (by decide) rfl ?_
    refine P_aload0 (pc' := 23) dX2_advance_22 rfl ?_
    refine P_geti (pc' := 26) dX2_advance_23 rfl fl_X2_25 rfl (l_22 hsh) (t_22 hsh) ?_
    refine P_as h3 ?_
    refine P_istore2 (pc' := 27) dX2_advance_26 rfl (by decide) rfl ?_
    refine P_aload0 (pc' := 28) dX2_advance_27 rfl ?_
    refine P_iload2 (pc' := 29) dX2_advance_28 rfl ?_
    refine P_puti (pc' := 32) dX2_advance_29 rfl fl_X2_22 rfl (l_22 hsh) (t_22 hsh) ?_
    refine P_iload2 (pc' := 33) dX2_advance_32 rfl ?_
    refine P_istore3 (pc' := 34) dX2_advance_33 rfl (by decide) rfl ?_
    have sb := skp_b (b := b) (n := n) (n - e) e he
    exact lp_X2_a1 (b := b) hsh h22 h23 hn (n - e) e (by omega) (fun x3 => k_X2_advance (k := k) (e := e) (p := skp b n (n - e) e) hsh hn sb.2 he hR rfl hx hd)
  refine P_aload0 (pc' := 1) dX2_advance_0 rfl ?_
  refine P_geti (pc' := 4) dX2_advance_1 rfl fl_X2_18 rfl (l_22 hsh) (t_22 hsh) ?_
  refine P_as h1 ?_
  refine P_iconst (pc' := 5) dX2_advance_4 rfl (v := 1) rfl ?_
  refine P_icmp_eq (tgt := 16) (pc' := 8) dX2_advance_5 rfl rfl (fun h5 => ?_) (fun h5 => ?_)
  · refine P_iconst (pc' := 17) dX2_advance_16 rfl (v := 1) rfl ?_
    refine P_goto (tgt := 21) dX2_advance_17 rfl ?_
    first
      | (rw [if_pos (Or.inl ((nI_eq (b := 1) (by omega) (by decide)).mp h5))] at key; exact key)
      | (rw [if_pos (Or.inr ((nI_eq (b := 2) (by omega) (by decide)).mp h13))] at key; exact key)
      | (rw [if_neg (fun z => by rcases z with z | z; exact h5 (by rw [z]; rfl); exact h13 (by rw [z]; rfl))] at key; exact key)
  · refine P_aload0 (pc' := 9) dX2_advance_8 rfl ?_
    refine P_geti (pc' := 12) dX2_advance_9 rfl fl_X2_18 rfl (l_22 hsh) (t_22 hsh) ?_
    refine P_as h1 ?_
    refine P_iconst (pc' := 13) dX2_advance_12 rfl (v := 2) rfl ?_
    refine P_icmp_ne (tgt := 20) (pc' := 16) dX2_advance_13 rfl rfl (fun h13 => ?_) (fun h13 => ?_)
    · refine P_iconst (pc' := 21) dX2_advance_20 rfl (v := 0) rfl ?_
      first
        | (rw [if_pos (Or.inl ((nI_eq (b := 1) (by omega) (by decide)).mp h5))] at key; exact key)
        | (rw [if_pos (Or.inr ((nI_eq (b := 2) (by omega) (by decide)).mp h13))] at key; exact key)
        | (rw [if_neg (fun z => by rcases z with z | z; exact h5 (by rw [z]; rfl); exact h13 (by rw [z]; rfl))] at key; exact key)
    · refine P_iconst (pc' := 17) dX2_advance_16 rfl (v := 1) rfl ?_
      refine P_goto (tgt := 21) dX2_advance_17 rfl ?_
      first
        | (rw [if_pos (Or.inl ((nI_eq (b := 1) (by omega) (by decide)).mp h5))] at key; exact key)
        | (rw [if_pos (Or.inr ((nI_eq (b := 2) (by omega) (by decide)).mp h13))] at key; exact key)
        | (rw [if_neg (fun z => by rcases z with z | z; exact h5 (by rw [z]; rfl); exact h13 (by rw [z]; rfl))] at key; exact key)
theorem c_X2_adv {G : GX} {S : Shp} {I : Mem} {b : Nat → Int32} {d n : Nat} {ky : Int32} {s : RS} (hsh : SHP S) (hn : n ≤ 96) (h : RdI b n ky s I) (hd : 2 ≤ d) : PM G yX2_advance cX2_advance 4 none d 0 0 [.ref 22] S I (fun r S' J => r = none ∧ S = S' ∧ RdI b n ky (ad b n s) J ∧ ∀ x, x ≠ 22 → J x = I x) := c_X2_advance hsh hn h.1 h.2.1.1 h.2.2.1 h.2.1.2.2 h.2.2.2.2.1 hd

