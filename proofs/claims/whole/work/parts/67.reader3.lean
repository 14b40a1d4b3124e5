def PoR (b : Nat → Int32) (n : Nat) (ky : Int32) (S : Shp) (I : Mem) (s' : RS) : Option Value → Shp → Mem → Prop := fun r S' J => r = none ∧ S = S' ∧ RdI b n ky s' J ∧ FrT I J
theorem enS_num {c : Nat} (h : c < 10000) : enS (nI c) = nI c := by
  unfold enS
  rw [if_neg (nI_pos (by omega)), if_neg (show ¬ (10000 : Int32) ≤ nI c from nI_ge (b := 10000) h (by decide))]
theorem enS_nam {j : Nat} (h : j < 3) : enS (nI (10000 + j)) = -1 - nI j := by
  have key : j = 0 ∨ j = 1 ∨ j = 2 := by omega
  rcases key with rfl | rfl | rfl <;> decide
theorem frT_24 {I J : Mem} (h : ∀ x, x ≠ 22 → J x = I x) : FrT I J := fun x a _ => h x a
theorem k_X2_piece {G : GX} {S : Shp} {I : Mem} {b : Nat → Int32} {d n key o k : Nat} {F0 F6 : RS → RS} {s : RS} (hsh : SHP S) (hn : n ≤ 96) (hky : key ≤ 2) (ho : o ≤ 8) (hk : k ≤ 8) (h : RdI b n (nI key) s I) (hd : 6 ≤ d)
    (ihP : k < 8 → ∀ (s : RS) (I : Mem), RdI b n (nI key) s I → PM G yX2_readPiece cX2_readPiece 3 none d 0 0 [.ref 22, .int (nI o), .int (nI (k + 1))] S I (PoR b n (nI key) S I (F6 s)))
    (ihL : o < 8 → ∀ (s : RS) (I : Mem), RdI b n (nI key) s I → PM G yX2_readLevel cX2_readLevel 7 none d 0 0 [.ref 22, .int (nI 0), .int (nI (o + 1)), .int (nI k)] S I (PoR b n (nI key) S I (F0 s))) :
    PM G yX2_readPiece cX2_readPiece 3 none (d + 1) 0 0 [.ref 22, .int (nI o), .int (nI k)] S I (PoR b n (nI key) S I (rdQ key b n o k F0 F6 s)) := by
  obtain ⟨⟨h22, h23⟩, -⟩ := id h.1
  obtain ⟨h1, h2, h3⟩ := id h.2.1
  have hw := h.2.2
  have w1 := hw.1
  have w3 := hw.2.2.1
  refine PM.of (ls := [some (.ref 22), some (.int (nI o)), some (.int (nI k))]) (by decide) rfl (Nat.le_of_ble_eq_true rfl) rfl ?_
  show PW G RX2 "readPiece" _ _ _ _ _ _ _ _ _ _ _ _
  have kd : s.1.1 = 0 ∨ s.1.1 = 1 ∨ s.1.1 = 2 ∨ s.1.1 = 3 ∨ s.1.1 = 4 := by omega
  have nos : ¬ s.1.1 = 3 → rdQ key b n o k F0 F6 s = match prt key b s.1 with | some v => opd b n (enS v) s | none => fl s := by
    intro q
    unfold rdQ
    cases prt key b s.1 with
    | some v => rfl
    | none =>
      dsimp only
      rw [if_neg (fun z => q z.1.1), if_neg (fun z => q z.1.1)]
  -- the end: no sign
  have k60 : ¬ s.1.1 = 3 → rdQ key b n o k F0 F6 s = fl s → PW G RX2 "readPiece" cX2_readPiece 3 none (d + 1) 0 0 (PoR b n (nI key) S I (rdQ key b n o k F0 F6 s)) 60 [some (.ref 22), some (.int (nI o)), some (.int (nI k))] [] S I := by
    intro q e
    rw [e]
    refine P_aload0 (pc' := 61) dX2_readPiece_60 rfl ?_
    refine P_bipush (pc' := 63) dX2_readPiece_61 rfl (v := 33) rfl ?_
    refine P_callV1 (pc' := 66) dX2_readPiece_63 rfl lk_X2_128 (l_22 hsh) (t_22 hsh) (c_X2_isSign (d := 0) hsh hn h) (by omega) (Nat.le_of_ble_eq_true rfl) (fun r S' I' hq => ?_)
    obtain ⟨rfl, rfl, rfl⟩ := hq
    refine P_as (if_neg (fun z => q z.1)) ?_
    refine P_if_eq (tgt := 96) (pc' := 69) dX2_readPiece_66 rfl rfl (fun h66 => ?_) (fun h66 => ?_)
    · refine P_aload0 (pc' := 97) dX2_readPiece_96 rfl ?_
      refine P_bipush (pc' := 99) dX2_readPiece_97 rfl (v := 40) rfl ?_
      refine P_callV1 (pc' := 102) dX2_readPiece_99 rfl lk_X2_128 (l_22 hsh) (t_22 hsh) (c_X2_isSign (d := 0) hsh hn h) (by omega) (Nat.le_of_ble_eq_true rfl) (fun r S' I' hq => ?_)
      obtain ⟨rfl, rfl, rfl⟩ := hq
      refine P_as (if_neg (fun z => q z.1)) ?_
      refine P_if_eq (tgt := 147) (pc' := 105) dX2_readPiece_102 rfl rfl (fun h102 => ?_) (fun h102 => ?_)
      · refine P_aload0 (pc' := 148) dX2_readPiece_147 rfl ?_
        refine P_callV0 (pc' := 151) dX2_readPiece_148 rfl lk_X2_51 (l_22 hsh) (t_22 hsh) (c_X2_fail (d := 0) hsh hn h) (by omega) (Nat.le_of_ble_eq_true rfl) (fun r S2 I2 hq => ?_)
        obtain ⟨rfl, rfl, h2, f2⟩ := hq
        refine P_vret dX2_readPiece_151 ?_
        exact ⟨rfl, rfl, h2, frT_24 f2⟩
      · exact absurd rfl h102
    · exact absurd rfl h66
  rcases kd with q | q | q | q | q
  · have e : rdQ key b n o k F0 F6 s = fl s := by
      rw [nos (by omega), show prt key b s.1 = none by unfold prt; rw [if_neg (by omega), if_neg (by omega)]]
    have k60 := k60 (by omega) e
    have e1 : I 22 1 = 0 := by rw [h1, q]; rfl
    refine P_aload0 (pc' := 1) dX2_readPiece_0 rfl ?_
    refine P_geti (pc' := 4) dX2_readPiece_1 rfl fl_X2_18 rfl (l_22 hsh) (t_22 hsh) ?_
    refine P_as e1 ?_
    refine P_iconst (pc' := 5) dX2_readPiece_4 rfl (v := 2) rfl ?_
    refine P_icmp_ne (tgt := 32) (pc' := 8) dX2_readPiece_5 rfl rfl (fun h5 => ?_) (fun h5 => ?_)
    · refine P_aload0 (pc' := 33) dX2_readPiece_32 rfl ?_
      refine P_geti (pc' := 36) dX2_readPiece_33 rfl fl_X2_18 rfl (l_22 hsh) (t_22 hsh) ?_
      refine P_as e1 ?_
      refine P_iconst (pc' := 37) dX2_readPiece_36 rfl (v := 1) rfl ?_
      refine P_icmp_ne (tgt := 60) (pc' := 40) dX2_readPiece_37 rfl rfl (fun h37 => ?_) (fun h37 => ?_)
      · exact k60
      · exact absurd h37 (by decide)
    · exact absurd h5 (by decide)
  · have e1 : I 22 1 = 1 := by rw [h1, q]; rfl
    by_cases ql : s.1.2.2 - s.1.2.1 = 1
    · cases hm : nmO key (b s.1.2.1) with
      | none =>
        have e : rdQ key b n o k F0 F6 s = fl s := by
          rw [nos (by omega), show prt key b s.1 = none by unfold prt; rw [if_neg (by omega), if_pos q, if_pos ql, hm]; rfl]
        have k60 := k60 (by omega) e
        refine P_aload0 (pc' := 1) dX2_readPiece_0 rfl ?_
        refine P_geti (pc' := 4) dX2_readPiece_1 rfl fl_X2_18 rfl (l_22 hsh) (t_22 hsh) ?_
        refine P_as e1 ?_
        refine P_iconst (pc' := 5) dX2_readPiece_4 rfl (v := 2) rfl ?_
        refine P_icmp_ne (tgt := 32) (pc' := 8) dX2_readPiece_5 rfl rfl (fun h5 => ?_) (fun h5 => ?_)
        · refine P_aload0 (pc' := 33) dX2_readPiece_32 rfl ?_
          refine P_geti (pc' := 36) dX2_readPiece_33 rfl fl_X2_18 rfl (l_22 hsh) (t_22 hsh) ?_
          refine P_as e1 ?_
          refine P_iconst (pc' := 37) dX2_readPiece_36 rfl (v := 1) rfl ?_
          refine P_icmp_ne (tgt := 60) (pc' := 40) dX2_readPiece_37 rfl rfl (fun h37 => ?_) (fun h37 => ?_)
          · exact absurd rfl h37
          · refine P_aload0 (pc' := 41) dX2_readPiece_40 rfl ?_
            refine P_callV0 (pc' := 44) dX2_readPiece_41 rfl lk_X2_125 (l_22 hsh) (t_22 hsh) (c_X2_nameHere (d := 4) hsh hn hky h q (by omega)) (by omega) (Nat.le_of_ble_eq_true rfl) (fun r S' I' hq => ?_)
            obtain ⟨rfl, rfl, rfl⟩ := hq
            refine P_as (y := -1) (by rw [if_pos ql, hm]; rfl) ?_
            refine P_if_lt (tgt := 60) (pc' := 47) dX2_readPiece_44 rfl rfl (fun h44 => ?_) (fun h44 => ?_)
            · exact k60
            · exact absurd (by decide) h44
        · exact absurd h5 (by decide)
      | some j =>
        obtain ⟨j3, -⟩ := nmO_b hm
        have e : rdQ key b n o k F0 F6 s = opd b n (enS (nI (10000 + j))) s := by
          rw [nos (by omega), show prt key b s.1 = some (nI (10000 + j)) by unfold prt; rw [if_neg (by omega), if_pos q, if_pos ql, hm]; rfl]
        rw [e, enS_nam j3]
        refine P_aload0 (pc' := 1) dX2_readPiece_0 rfl ?_
        refine P_geti (pc' := 4) dX2_readPiece_1 rfl fl_X2_18 rfl (l_22 hsh) (t_22 hsh) ?_
        refine P_as e1 ?_
        refine P_iconst (pc' := 5) dX2_readPiece_4 rfl (v := 2) rfl ?_
        refine P_icmp_ne (tgt := 32) (pc' := 8) dX2_readPiece_5 rfl rfl (fun h5 => ?_) (fun h5 => ?_)
        · refine P_aload0 (pc' := 33) dX2_readPiece_32 rfl ?_
          refine P_geti (pc' := 36) dX2_readPiece_33 rfl fl_X2_18 rfl (l_22 hsh) (t_22 hsh) ?_
          refine P_as e1 ?_
          refine P_iconst (pc' := 37) dX2_readPiece_36 rfl (v := 1) rfl ?_
          refine P_icmp_ne (tgt := 60) (pc' := 40) dX2_readPiece_37 rfl rfl (fun h37 => ?_) (fun h37 => ?_)
          · exact absurd rfl h37
          · refine P_aload0 (pc' := 41) dX2_readPiece_40 rfl ?_
            refine P_callV0 (pc' := 44) dX2_readPiece_41 rfl lk_X2_125 (l_22 hsh) (t_22 hsh) (c_X2_nameHere (d := 4) hsh hn hky h q (by omega)) (by omega) (Nat.le_of_ble_eq_true rfl) (fun r S' I' hq => ?_)
            obtain ⟨rfl, rfl, rfl⟩ := hq
            refine P_as (y := nI j) (by rw [if_pos ql, hm]; rfl) ?_
            refine P_if_lt (tgt := 60) (pc' := 47) dX2_readPiece_44 rfl rfl (fun h44 => ?_) (fun h44 => ?_)
            · exact absurd h44 (nI_pos (by omega))
            · refine P_aload0 (pc' := 48) dX2_readPiece_47 rfl ?_
              refine P_iconst (pc' := 49) dX2_readPiece_48 rfl (v := (-1)) rfl ?_
              refine P_aload0 (pc' := 50) dX2_readPiece_49 rfl ?_
              refine P_callV0 (pc' := 53) dX2_readPiece_50 rfl lk_X2_125 (l_22 hsh) (t_22 hsh) (c_X2_nameHere (d := 4) hsh hn hky h q (by omega)) (by omega) (Nat.le_of_ble_eq_true rfl) (fun r S' I' hq => ?_)
              obtain ⟨rfl, rfl, rfl⟩ := hq
              refine P_as (y := nI j) (by rw [if_pos ql, hm]; rfl) ?_
              refine P_isub (pc' := 54) dX2_readPiece_53 rfl ?_
              refine P_callV1 (pc' := 57) dX2_readPiece_54 rfl lk_X2_122 (l_22 hsh) (t_22 hsh) (c_X2_readOperand (d := 4) hsh hn h (by omega)) (by omega) (Nat.le_of_ble_eq_true rfl) (fun r S2 I2 hq => ?_)
              obtain ⟨rfl, rfl, h2, f2⟩ := hq
              refine P_goto (tgt := 151) dX2_readPiece_57 rfl ?_
              refine P_vret dX2_readPiece_151 ?_
              exact ⟨rfl, rfl, h2, f2⟩
        · exact absurd h5 (by decide)
    · have e : rdQ key b n o k F0 F6 s = fl s := by
        rw [nos (by omega), show prt key b s.1 = none by unfold prt; rw [if_neg (by omega), if_pos q, if_neg ql]]
      have k60 := k60 (by omega) e
      refine P_aload0 (pc' := 1) dX2_readPiece_0 rfl ?_
      refine P_geti (pc' := 4) dX2_readPiece_1 rfl fl_X2_18 rfl (l_22 hsh) (t_22 hsh) ?_
      refine P_as e1 ?_
      refine P_iconst (pc' := 5) dX2_readPiece_4 rfl (v := 2) rfl ?_
      refine P_icmp_ne (tgt := 32) (pc' := 8) dX2_readPiece_5 rfl rfl (fun h5 => ?_) (fun h5 => ?_)
      · refine P_aload0 (pc' := 33) dX2_readPiece_32 rfl ?_
        refine P_geti (pc' := 36) dX2_readPiece_33 rfl fl_X2_18 rfl (l_22 hsh) (t_22 hsh) ?_
        refine P_as e1 ?_
        refine P_iconst (pc' := 37) dX2_readPiece_36 rfl (v := 1) rfl ?_
        refine P_icmp_ne (tgt := 60) (pc' := 40) dX2_readPiece_37 rfl rfl (fun h37 => ?_) (fun h37 => ?_)
        · exact absurd rfl h37
        · refine P_aload0 (pc' := 41) dX2_readPiece_40 rfl ?_
          refine P_callV0 (pc' := 44) dX2_readPiece_41 rfl lk_X2_125 (l_22 hsh) (t_22 hsh) (c_X2_nameHere (d := 4) hsh hn hky h q (by omega)) (by omega) (Nat.le_of_ble_eq_true rfl) (fun r S' I' hq => ?_)
          obtain ⟨rfl, rfl, rfl⟩ := hq
          refine P_as (y := -1) (by rw [if_neg ql]) ?_
          refine P_if_lt (tgt := 60) (pc' := 47) dX2_readPiece_44 rfl rfl (fun h44 => ?_) (fun h44 => ?_)
          · exact k60
          · exact absurd (by decide) h44
      · exact absurd h5 (by decide)
  · have e1 : I 22 1 = 2 := by rw [h1, q]; rfl
    have lt := hw.2.2.2.1 (Or.inr (Or.inl q))
    have es : nI s.1.2.2 - nI s.1.2.1 = nI (s.1.2.2 - s.1.2.1) := pk_sub (by omega)
    by_cases ql : s.1.2.2 - s.1.2.1 ≤ 4
    · obtain ⟨c, hc, ec⟩ := prt_num (b := b) (n := n) (x := s.1) ⟨fun z => by omega, w1, hw.2.1, w3, fun _ => lt, hw.2.2.2.2.1⟩ q ql
      have e : rdQ key b n o k F0 F6 s = opd b n (enS (nI c)) s := by
        rw [nos (by omega), show prt key b s.1 = some (nI c) by unfold prt; rw [if_pos q, if_pos ql, ec]]
      rw [e, enS_num hc]
      refine P_aload0 (pc' := 1) dX2_readPiece_0 rfl ?_
      refine P_geti (pc' := 4) dX2_readPiece_1 rfl fl_X2_18 rfl (l_22 hsh) (t_22 hsh) ?_
      refine P_as e1 ?_
      refine P_iconst (pc' := 5) dX2_readPiece_4 rfl (v := 2) rfl ?_
      refine P_icmp_ne (tgt := 32) (pc' := 8) dX2_readPiece_5 rfl rfl (fun h5 => ?_) (fun h5 => ?_)
      · exact absurd rfl h5
      · refine P_aload0 (pc' := 9) dX2_readPiece_8 rfl ?_
        refine P_geti (pc' := 12) dX2_readPiece_9 rfl fl_X2_25 rfl (l_22 hsh) (t_22 hsh) ?_
        refine P_as h3 ?_
        refine P_aload0 (pc' := 13) dX2_readPiece_12 rfl ?_
        refine P_geti (pc' := 16) dX2_readPiece_13 rfl fl_X2_22 rfl (l_22 hsh) (t_22 hsh) ?_
        refine P_as h2 ?_
        refine P_isub (pc' := 17) dX2_readPiece_16 rfl ?_
        refine P_as es ?_
        refine P_iconst (pc' := 18) dX2_readPiece_17 rfl (v := 4) rfl ?_
        refine P_icmp_gt (tgt := 32) (pc' := 21) dX2_readPiece_18 rfl rfl (fun h18 => ?_) (fun h18 => ?_)
        · exact absurd h18 (Int32.not_lt.mpr (nI_le (b := 4) ql (by decide)))
        · refine P_aload0 (pc' := 22) dX2_readPiece_21 rfl ?_
          refine P_aload0 (pc' := 23) dX2_readPiece_22 rfl ?_
          refine P_callV0 (pc' := 26) dX2_readPiece_23 rfl lk_X2_119 (l_22 hsh) (t_22 hsh) (c_X2_numberHere (d := 0) hsh hn h (by omega)) (by omega) (Nat.le_of_ble_eq_true rfl) (fun r S' I' hq => ?_)
          obtain ⟨rfl, rfl, rfl⟩ := hq
          refine P_as ec ?_
          refine P_callV1 (pc' := 29) dX2_readPiece_26 rfl lk_X2_122 (l_22 hsh) (t_22 hsh) (c_X2_readOperand (d := 4) hsh hn h (by omega)) (by omega) (Nat.le_of_ble_eq_true rfl) (fun r S2 I2 hq => ?_)
          obtain ⟨rfl, rfl, h2, f2⟩ := hq
          refine P_goto (tgt := 151) dX2_readPiece_29 rfl ?_
          refine P_vret dX2_readPiece_151 ?_
          exact ⟨rfl, rfl, h2, f2⟩
    · have e : rdQ key b n o k F0 F6 s = fl s := by
        rw [nos (by omega), show prt key b s.1 = none by unfold prt; rw [if_pos q, if_neg ql]]
      have k60 := k60 (by omega) e
      refine P_aload0 (pc' := 1) dX2_readPiece_0 rfl ?_
      refine P_geti (pc' := 4) dX2_readPiece_1 rfl fl_X2_18 rfl (l_22 hsh) (t_22 hsh) ?_
      refine P_as e1 ?_
      refine P_iconst (pc' := 5) dX2_readPiece_4 rfl (v := 2) rfl ?_
      refine P_icmp_ne (tgt := 32) (pc' := 8) dX2_readPiece_5 rfl rfl (fun h5 => ?_) (fun h5 => ?_)
      · exact absurd rfl h5
      · refine P_aload0 (pc' := 9) dX2_readPiece_8 rfl ?_
        refine P_geti (pc' := 12) dX2_readPiece_9 rfl fl_X2_25 rfl (l_22 hsh) (t_22 hsh) ?_
        refine P_as h3 ?_
        refine P_aload0 (pc' := 13) dX2_readPiece_12 rfl ?_
        refine P_geti (pc' := 16) dX2_readPiece_13 rfl fl_X2_22 rfl (l_22 hsh) (t_22 hsh) ?_
        refine P_as h2 ?_
        refine P_isub (pc' := 17) dX2_readPiece_16 rfl ?_
        refine P_as es ?_
        refine P_iconst (pc' := 18) dX2_readPiece_17 rfl (v := 4) rfl ?_
        refine P_icmp_gt (tgt := 32) (pc' := 21) dX2_readPiece_18 rfl rfl (fun h18 => ?_) (fun h18 => ?_)
        · refine P_aload0 (pc' := 33) dX2_readPiece_32 rfl ?_
          refine P_geti (pc' := 36) dX2_readPiece_33 rfl fl_X2_18 rfl (l_22 hsh) (t_22 hsh) ?_
          refine P_as e1 ?_
          refine P_iconst (pc' := 37) dX2_readPiece_36 rfl (v := 1) rfl ?_
          refine P_icmp_ne (tgt := 60) (pc' := 40) dX2_readPiece_37 rfl rfl (fun h37 => ?_) (fun h37 => ?_)
          · exact k60
          · exact absurd h37 (by decide)
        · exact absurd (nI_lt (a := 4) (by omega) (by omega)) h18
  · have e1 : I 22 1 = 3 := by rw [h1, q]; rfl
    have ep : prt key b s.1 = none := by unfold prt; rw [if_neg (by omega), if_neg (by omega)]
    have er : rdQ key b n o k F0 F6 s = if (s.1.1 = 3 ∧ b s.1.2.1 = 33) ∧ k < 8 then as1 (-33) (F6 (ad b n s)) else if (s.1.1 = 3 ∧ b s.1.2.1 = 40) ∧ o < 8 then rdC b n (F0 (ad b n s)) else fl s := by unfold rdQ; rw [ep]
    rw [er]
    by_cases q1 : b s.1.2.1 = 33
    · by_cases q8 : k < 8
      · have ih := ihP q8
        rw [if_pos ⟨⟨q, q1⟩, q8⟩]
        refine P_aload0 (pc' := 1) dX2_readPiece_0 rfl ?_
        refine P_geti (pc' := 4) dX2_readPiece_1 rfl fl_X2_18 rfl (l_22 hsh) (t_22 hsh) ?_
        refine P_as e1 ?_
        refine P_iconst (pc' := 5) dX2_readPiece_4 rfl (v := 2) rfl ?_
        refine P_icmp_ne (tgt := 32) (pc' := 8) dX2_readPiece_5 rfl rfl (fun h5 => ?_) (fun h5 => ?_)
        · refine P_aload0 (pc' := 33) dX2_readPiece_32 rfl ?_
          refine P_geti (pc' := 36) dX2_readPiece_33 rfl fl_X2_18 rfl (l_22 hsh) (t_22 hsh) ?_
          refine P_as e1 ?_
          refine P_iconst (pc' := 37) dX2_readPiece_36 rfl (v := 1) rfl ?_
          refine P_icmp_ne (tgt := 60) (pc' := 40) dX2_readPiece_37 rfl rfl (fun h37 => ?_) (fun h37 => ?_)
          · refine P_aload0 (pc' := 61) dX2_readPiece_60 rfl ?_
            refine P_bipush (pc' := 63) dX2_readPiece_61 rfl (v := 33) rfl ?_
            refine P_callV1 (pc' := 66) dX2_readPiece_63 rfl lk_X2_128 (l_22 hsh) (t_22 hsh) (c_X2_isSign (d := 0) hsh hn h) (by omega) (Nat.le_of_ble_eq_true rfl) (fun r S' I' hq => ?_)
            obtain ⟨rfl, rfl, rfl⟩ := hq
            refine P_as (if_pos ⟨q, q1⟩) ?_
            refine P_if_eq (tgt := 96) (pc' := 69) dX2_readPiece_66 rfl rfl (fun h66 => ?_) (fun h66 => ?_)
            · exact absurd h66 (by decide)
            · refine P_iload2 (pc' := 70) dX2_readPiece_69 rfl ?_
              refine P_bipush (pc' := 72) dX2_readPiece_70 rfl (v := 8) rfl ?_
              refine P_icmp_ge (tgt := 96) (pc' := 75) dX2_readPiece_72 rfl rfl (fun h72 => ?_) (fun h72 => ?_)
              · exact absurd h72 (nI_ge (b := 8) q8 (by decide))
              · refine P_aload0 (pc' := 76) dX2_readPiece_75 rfl ?_
                refine P_callV0 (pc' := 79) dX2_readPiece_76 rfl lk_X2_44 (l_22 hsh) (t_22 hsh) (c_X2_adv (d := 2) hsh hn h (by omega)) (by omega) (Nat.le_of_ble_eq_true rfl) (fun r S2 I2 hq => ?_)
                obtain ⟨rfl, rfl, h2, f2⟩ := hq
                refine P_aload0 (pc' := 80) dX2_readPiece_79 rfl ?_
                refine P_iload1 (pc' := 81) dX2_readPiece_80 rfl ?_
                refine P_iload2 (pc' := 82) dX2_readPiece_81 rfl ?_
                refine P_iconst (pc' := 83) dX2_readPiece_82 rfl (v := 1) rfl ?_
                refine P_iadd (pc' := 84) dX2_readPiece_83 rfl ?_
                refine P_as (nI_1 k) ?_
                refine P_callV2 (pc' := 87) dX2_readPiece_84 rfl lk_X2_108 (l_22 hsh) (t_22 hsh) (ih (ad b n s) I2 h2) (by omega) (Nat.le_of_ble_eq_true rfl) (fun r S3 I3 hq => ?_)
                obtain ⟨rfl, rfl, h3, f3⟩ := hq
                refine P_aload0 (pc' := 88) dX2_readPiece_87 rfl ?_
                refine P_bipush (pc' := 90) dX2_readPiece_88 rfl (v := (-33)) rfl ?_
                refine P_callV1 (pc' := 93) dX2_readPiece_90 rfl lk_X2_115 (l_22 hsh) (t_22 hsh) (c_X2_addStep (d := 0) hsh h3) (by omega) (Nat.le_of_ble_eq_true rfl) (fun r S4 I4 hq => ?_)
                obtain ⟨rfl, rfl, h4, f4⟩ := hq
                refine P_goto (tgt := 151) dX2_readPiece_93 rfl ?_
                refine P_vret dX2_readPiece_151 ?_
                exact ⟨rfl, rfl, h4, ((frT_24 f2).tr f3).tr f4⟩
          · exact absurd h37 (by decide)
        · exact absurd h5 (by decide)
      · rw [if_neg (fun z => q8 z.2), if_neg (fun z => by rw [q1] at z; exact absurd z.1.2 (by decide))]
        refine P_aload0 (pc' := 1) dX2_readPiece_0 rfl ?_
        refine P_geti (pc' := 4) dX2_readPiece_1 rfl fl_X2_18 rfl (l_22 hsh) (t_22 hsh) ?_
        refine P_as e1 ?_
        refine P_iconst (pc' := 5) dX2_readPiece_4 rfl (v := 2) rfl ?_
        refine P_icmp_ne (tgt := 32) (pc' := 8) dX2_readPiece_5 rfl rfl (fun h5 => ?_) (fun h5 => ?_)
        · refine P_aload0 (pc' := 33) dX2_readPiece_32 rfl ?_
          refine P_geti (pc' := 36) dX2_readPiece_33 rfl fl_X2_18 rfl (l_22 hsh) (t_22 hsh) ?_
          refine P_as e1 ?_
          refine P_iconst (pc' := 37) dX2_readPiece_36 rfl (v := 1) rfl ?_
          refine P_icmp_ne (tgt := 60) (pc' := 40) dX2_readPiece_37 rfl rfl (fun h37 => ?_) (fun h37 => ?_)
          · refine P_aload0 (pc' := 61) dX2_readPiece_60 rfl ?_
            refine P_bipush (pc' := 63) dX2_readPiece_61 rfl (v := 33) rfl ?_
            refine P_callV1 (pc' := 66) dX2_readPiece_63 rfl lk_X2_128 (l_22 hsh) (t_22 hsh) (c_X2_isSign (d := 0) hsh hn h) (by omega) (Nat.le_of_ble_eq_true rfl) (fun r S' I' hq => ?_)
            obtain ⟨rfl, rfl, rfl⟩ := hq
            refine P_as (if_pos ⟨q, q1⟩) ?_
            refine P_if_eq (tgt := 96) (pc' := 69) dX2_readPiece_66 rfl rfl (fun h66 => ?_) (fun h66 => ?_)
            · exact absurd h66 (by decide)
            · refine P_iload2 (pc' := 70) dX2_readPiece_69 rfl ?_
              refine P_bipush (pc' := 72) dX2_readPiece_70 rfl (v := 8) rfl ?_
              refine P_icmp_ge (tgt := 96) (pc' := 75) dX2_readPiece_72 rfl rfl (fun h72 => ?_) (fun h72 => ?_)
              · refine P_aload0 (pc' := 97) dX2_readPiece_96 rfl ?_
                refine P_bipush (pc' := 99) dX2_readPiece_97 rfl (v := 40) rfl ?_
                refine P_callV1 (pc' := 102) dX2_readPiece_99 rfl lk_X2_128 (l_22 hsh) (t_22 hsh) (c_X2_isSign (d := 0) hsh hn h) (by omega) (Nat.le_of_ble_eq_true rfl) (fun r S' I' hq => ?_)
                obtain ⟨rfl, rfl, rfl⟩ := hq
                refine P_as (if_neg (fun z => by rw [q1] at z; exact absurd z.2 (by decide))) ?_
                refine P_if_eq (tgt := 147) (pc' := 105) dX2_readPiece_102 rfl rfl (fun h102 => ?_) (fun h102 => ?_)
                · refine P_aload0 (pc' := 148) dX2_readPiece_147 rfl ?_
                  refine P_callV0 (pc' := 151) dX2_readPiece_148 rfl lk_X2_51 (l_22 hsh) (t_22 hsh) (c_X2_fail (d := 0) hsh hn h) (by omega) (Nat.le_of_ble_eq_true rfl) (fun r S2 I2 hq => ?_)
                  obtain ⟨rfl, rfl, h2, f2⟩ := hq
                  refine P_vret dX2_readPiece_151 ?_
                  exact ⟨rfl, rfl, h2, frT_24 f2⟩
                · exact absurd rfl h102
              · exact absurd (nI_le (a := 8) (by omega) (by omega)) h72
          · exact absurd h37 (by decide)
        · exact absurd h5 (by decide)
    · rw [if_neg (fun z => q1 z.1.2)]
      by_cases q2 : b s.1.2.1 = 40
      · by_cases q8 : o < 8
        · have ih := ihL q8
          rw [if_pos ⟨⟨q, q2⟩, q8⟩]
          refine P_aload0 (pc' := 1) dX2_readPiece_0 rfl ?_
          refine P_geti (pc' := 4) dX2_readPiece_1 rfl fl_X2_18 rfl (l_22 hsh) (t_22 hsh) ?_
          refine P_as e1 ?_
          refine P_iconst (pc' := 5) dX2_readPiece_4 rfl (v := 2) rfl ?_
          refine P_icmp_ne (tgt := 32) (pc' := 8) dX2_readPiece_5 rfl rfl (fun h5 => ?_) (fun h5 => ?_)
          · refine P_aload0 (pc' := 33) dX2_readPiece_32 rfl ?_
            refine P_geti (pc' := 36) dX2_readPiece_33 rfl fl_X2_18 rfl (l_22 hsh) (t_22 hsh) ?_
            refine P_as e1 ?_
            refine P_iconst (pc' := 37) dX2_readPiece_36 rfl (v := 1) rfl ?_
            refine P_icmp_ne (tgt := 60) (pc' := 40) dX2_readPiece_37 rfl rfl (fun h37 => ?_) (fun h37 => ?_)
            · refine P_aload0 (pc' := 61) dX2_readPiece_60 rfl ?_
              refine P_bipush (pc' := 63) dX2_readPiece_61 rfl (v := 33) rfl ?_
              refine P_callV1 (pc' := 66) dX2_readPiece_63 rfl lk_X2_128 (l_22 hsh) (t_22 hsh) (c_X2_isSign (d := 0) hsh hn h) (by omega) (Nat.le_of_ble_eq_true rfl) (fun r S' I' hq => ?_)
              obtain ⟨rfl, rfl, rfl⟩ := hq
              refine P_as (if_neg (fun z => q1 z.2)) ?_
              refine P_if_eq (tgt := 96) (pc' := 69) dX2_readPiece_66 rfl rfl (fun h66 => ?_) (fun h66 => ?_)
              · refine P_aload0 (pc' := 97) dX2_readPiece_96 rfl ?_
                refine P_bipush (pc' := 99) dX2_readPiece_97 rfl (v := 40) rfl ?_
                refine P_callV1 (pc' := 102) dX2_readPiece_99 rfl lk_X2_128 (l_22 hsh) (t_22 hsh) (c_X2_isSign (d := 0) hsh hn h) (by omega) (Nat.le_of_ble_eq_true rfl) (fun r S' I' hq => ?_)
                obtain ⟨rfl, rfl, rfl⟩ := hq
                refine P_as (if_pos ⟨q, q2⟩) ?_
                refine P_if_eq (tgt := 147) (pc' := 105) dX2_readPiece_102 rfl rfl (fun h102 => ?_) (fun h102 => ?_)
                · exact absurd h102 (by decide)
                · refine P_iload1 (pc' := 106) dX2_readPiece_105 rfl ?_
                  refine P_bipush (pc' := 108) dX2_readPiece_106 rfl (v := 8) rfl ?_
                  refine P_icmp_ge (tgt := 147) (pc' := 111) dX2_readPiece_108 rfl rfl (fun h108 => ?_) (fun h108 => ?_)
                  · exact absurd h108 (nI_ge (b := 8) q8 (by decide))
                  · refine P_aload0 (pc' := 112) dX2_readPiece_111 rfl ?_
                    refine P_callV0 (pc' := 115) dX2_readPiece_112 rfl lk_X2_44 (l_22 hsh) (t_22 hsh) (c_X2_adv (d := 2) hsh hn h (by omega)) (by omega) (Nat.le_of_ble_eq_true rfl) (fun r S2 I2 hq => ?_)
                    obtain ⟨rfl, rfl, h2, f2⟩ := hq
                    refine P_aload0 (pc' := 116) dX2_readPiece_115 rfl ?_
                    refine P_iconst (pc' := 117) dX2_readPiece_116 rfl (v := 0) rfl ?_
                    refine P_iload1 (pc' := 118) dX2_readPiece_117 rfl ?_
                    refine P_iconst (pc' := 119) dX2_readPiece_118 rfl (v := 1) rfl ?_
                    refine P_iadd (pc' := 120) dX2_readPiece_119 rfl ?_
                    refine P_iload2 (pc' := 121) dX2_readPiece_120 rfl ?_
                    rw [nI_1 o]
                    refine P_callV3 (pc' := 124) dX2_readPiece_121 rfl lk_X2_54 (l_22 hsh) (t_22 hsh) (ih (ad b n s) I2 h2) (by omega) (Nat.le_of_ble_eq_true rfl) (fun r S3 I3 hq => ?_); obtain ⟨rfl, rfl, h3, f3⟩ := hq; unfold rdC
                    refine P_aload0 (pc' := 125) dX2_readPiece_124 rfl ?_
                    refine P_bipush (pc' := 127) dX2_readPiece_125 rfl (v := 41) rfl ?_
                    refine P_callV1 (pc' := 130) dX2_readPiece_127 rfl lk_X2_128 (l_22 hsh) (t_22 hsh) (c_X2_isSign (d := 0) hsh hn h3) (by omega) (Nat.le_of_ble_eq_true rfl) (fun r S' I' hq => ?_)
                    obtain ⟨rfl, rfl, rfl⟩ := hq
                    refine P_if_eq (tgt := 140) (pc' := 133) dX2_readPiece_130 rfl rfl (fun h130 => ?_) (fun h130 => ?_)
                    · refine P_aload0 (pc' := 141) dX2_readPiece_140 rfl ?_
                      refine P_callV0 (pc' := 144) dX2_readPiece_141 rfl lk_X2_51 (l_22 hsh) (t_22 hsh) (c_X2_fail (d := 0) hsh hn h3) (by omega) (Nat.le_of_ble_eq_true rfl) (fun r S4 I4 hq => ?_)
                      obtain ⟨rfl, rfl, h4, f4⟩ := hq
                      refine P_goto (tgt := 151) dX2_readPiece_144 rfl ?_
                      refine P_vret dX2_readPiece_151 ?_
                      first
                        | (rw [if_pos (Classical.byContradiction (fun z => h130 (if_neg z)))]; exact ⟨rfl, rfl, h4, ((frT_24 f2).tr f3).tr (frT_24 f4)⟩)
                        | (rw [if_neg (fun z => by rw [if_pos z] at h130; exact absurd h130 (by decide))]; exact ⟨rfl, rfl, h4, ((frT_24 f2).tr f3).tr (frT_24 f4)⟩)
                    · refine P_aload0 (pc' := 134) dX2_readPiece_133 rfl ?_
                      refine P_callV0 (pc' := 137) dX2_readPiece_134 rfl lk_X2_44 (l_22 hsh) (t_22 hsh) (c_X2_adv (d := 2) hsh hn h3 (by omega)) (by omega) (Nat.le_of_ble_eq_true rfl) (fun r S4 I4 hq => ?_)
                      obtain ⟨rfl, rfl, h4, f4⟩ := hq
                      refine P_goto (tgt := 151) dX2_readPiece_137 rfl ?_
                      refine P_vret dX2_readPiece_151 ?_
                      first
                        | (rw [if_pos (Classical.byContradiction (fun z => h130 (if_neg z)))]; exact ⟨rfl, rfl, h4, ((frT_24 f2).tr f3).tr (frT_24 f4)⟩)
                        | (rw [if_neg (fun z => by rw [if_pos z] at h130; exact absurd h130 (by decide))]; exact ⟨rfl, rfl, h4, ((frT_24 f2).tr f3).tr (frT_24 f4)⟩)
              · exact absurd rfl h66
            · exact absurd h37 (by decide)
          · exact absurd h5 (by decide)
        · rw [if_neg (fun z => q8 z.2)]
          refine P_aload0 (pc' := 1) dX2_readPiece_0 rfl ?_
          refine P_geti (pc' := 4) dX2_readPiece_1 rfl fl_X2_18 rfl (l_22 hsh) (t_22 hsh) ?_
          refine P_as e1 ?_
          refine P_iconst (pc' := 5) dX2_readPiece_4 rfl (v := 2) rfl ?_
          refine P_icmp_ne (tgt := 32) (pc' := 8) dX2_readPiece_5 rfl rfl (fun h5 => ?_) (fun h5 => ?_)
          · refine P_aload0 (pc' := 33) dX2_readPiece_32 rfl ?_
            refine P_geti (pc' := 36) dX2_readPiece_33 rfl fl_X2_18 rfl (l_22 hsh) (t_22 hsh) ?_
            refine P_as e1 ?_
            refine P_iconst (pc' := 37) dX2_readPiece_36 rfl (v := 1) rfl ?_
            refine P_icmp_ne (tgt := 60) (pc' := 40) dX2_readPiece_37 rfl rfl (fun h37 => ?_) (fun h37 => ?_)
            · refine P_aload0 (pc' := 61) dX2_readPiece_60 rfl ?_
              refine P_bipush (pc' := 63) dX2_readPiece_61 rfl (v := 33) rfl ?_
              refine P_callV1 (pc' := 66) dX2_readPiece_63 rfl lk_X2_128 (l_22 hsh) (t_22 hsh) (c_X2_isSign (d := 0) hsh hn h) (by omega) (Nat.le_of_ble_eq_true rfl) (fun r S' I' hq => ?_)
              obtain ⟨rfl, rfl, rfl⟩ := hq
              refine P_as (if_neg (fun z => q1 z.2)) ?_
              refine P_if_eq (tgt := 96) (pc' := 69) dX2_readPiece_66 rfl rfl (fun h66 => ?_) (fun h66 => ?_)
              · refine P_aload0 (pc' := 97) dX2_readPiece_96 rfl ?_
                refine P_bipush (pc' := 99) dX2_readPiece_97 rfl (v := 40) rfl ?_
                refine P_callV1 (pc' := 102) dX2_readPiece_99 rfl lk_X2_128 (l_22 hsh) (t_22 hsh) (c_X2_isSign (d := 0) hsh hn h) (by omega) (Nat.le_of_ble_eq_true rfl) (fun r S' I' hq => ?_)
                obtain ⟨rfl, rfl, rfl⟩ := hq
                refine P_as (if_pos ⟨q, q2⟩) ?_
                refine P_if_eq (tgt := 147) (pc' := 105) dX2_readPiece_102 rfl rfl (fun h102 => ?_) (fun h102 => ?_)
                · exact absurd h102 (by decide)
                · refine P_iload1 (pc' := 106) dX2_readPiece_105 rfl ?_
                  refine P_bipush (pc' := 108) dX2_readPiece_106 rfl (v := 8) rfl ?_
                  refine P_icmp_ge (tgt := 147) (pc' := 111) dX2_readPiece_108 rfl rfl (fun h108 => ?_) (fun h108 => ?_)
                  · refine P_aload0 (pc' := 148) dX2_readPiece_147 rfl ?_
                    refine P_callV0 (pc' := 151) dX2_readPiece_148 rfl lk_X2_51 (l_22 hsh) (t_22 hsh) (c_X2_fail (d := 0) hsh hn h) (by omega) (Nat.le_of_ble_eq_true rfl) (fun r S2 I2 hq => ?_)
                    obtain ⟨rfl, rfl, h2, f2⟩ := hq
                    refine P_vret dX2_readPiece_151 ?_
                    exact ⟨rfl, rfl, h2, frT_24 f2⟩
                  · exact absurd (nI_le (a := 8) (by omega) (by omega)) h108
              · exact absurd rfl h66
            · exact absurd h37 (by decide)
          · exact absurd h5 (by decide)
      · rw [if_neg (fun z => q2 z.1.2)]
        refine P_aload0 (pc' := 1) dX2_readPiece_0 rfl ?_
        refine P_geti (pc' := 4) dX2_readPiece_1 rfl fl_X2_18 rfl (l_22 hsh) (t_22 hsh) ?_
        refine P_as e1 ?_
        refine P_iconst (pc' := 5) dX2_readPiece_4 rfl (v := 2) rfl ?_
        refine P_icmp_ne (tgt := 32) (pc' := 8) dX2_readPiece_5 rfl rfl (fun h5 => ?_) (fun h5 => ?_)
        · refine P_aload0 (pc' := 33) dX2_readPiece_32 rfl ?_
          refine P_geti (pc' := 36) dX2_readPiece_33 rfl fl_X2_18 rfl (l_22 hsh) (t_22 hsh) ?_
          refine P_as e1 ?_
          refine P_iconst (pc' := 37) dX2_readPiece_36 rfl (v := 1) rfl ?_
          refine P_icmp_ne (tgt := 60) (pc' := 40) dX2_readPiece_37 rfl rfl (fun h37 => ?_) (fun h37 => ?_)
          · refine P_aload0 (pc' := 61) dX2_readPiece_60 rfl ?_
            refine P_bipush (pc' := 63) dX2_readPiece_61 rfl (v := 33) rfl ?_
            refine P_callV1 (pc' := 66) dX2_readPiece_63 rfl lk_X2_128 (l_22 hsh) (t_22 hsh) (c_X2_isSign (d := 0) hsh hn h) (by omega) (Nat.le_of_ble_eq_true rfl) (fun r S' I' hq => ?_)
            obtain ⟨rfl, rfl, rfl⟩ := hq
            refine P_as (if_neg (fun z => q1 z.2)) ?_
            refine P_if_eq (tgt := 96) (pc' := 69) dX2_readPiece_66 rfl rfl (fun h66 => ?_) (fun h66 => ?_)
            · refine P_aload0 (pc' := 97) dX2_readPiece_96 rfl ?_
              refine P_bipush (pc' := 99) dX2_readPiece_97 rfl (v := 40) rfl ?_
              refine P_callV1 (pc' := 102) dX2_readPiece_99 rfl lk_X2_128 (l_22 hsh) (t_22 hsh) (c_X2_isSign (d := 0) hsh hn h) (by omega) (Nat.le_of_ble_eq_true rfl) (fun r S' I' hq => ?_)
              obtain ⟨rfl, rfl, rfl⟩ := hq
              refine P_as (if_neg (fun z => q2 z.2)) ?_
              refine P_if_eq (tgt := 147) (pc' := 105) dX2_readPiece_102 rfl rfl (fun h102 => ?_) (fun h102 => ?_)
              · refine P_aload0 (pc' := 148) dX2_readPiece_147 rfl ?_
                refine P_callV0 (pc' := 151) dX2_readPiece_148 rfl lk_X2_51 (l_22 hsh) (t_22 hsh) (c_X2_fail (d := 0) hsh hn h) (by omega) (Nat.le_of_ble_eq_true rfl) (fun r S2 I2 hq => ?_)
                obtain ⟨rfl, rfl, h2, f2⟩ := hq
                refine P_vret dX2_readPiece_151 ?_
                exact ⟨rfl, rfl, h2, frT_24 f2⟩
              · exact absurd rfl h102
            · exact absurd rfl h66
          · exact absurd h37 (by decide)
        · exact absurd h5 (by decide)
  · have e : rdQ key b n o k F0 F6 s = fl s := by
      rw [nos (by omega), show prt key b s.1 = none by unfold prt; rw [if_neg (by omega), if_neg (by omega)]]
    have k60 := k60 (by omega) e
    have e1 : I 22 1 = 4 := by rw [h1, q]; rfl
    refine P_aload0 (pc' := 1) dX2_readPiece_0 rfl ?_
    refine P_geti (pc' := 4) dX2_readPiece_1 rfl fl_X2_18 rfl (l_22 hsh) (t_22 hsh) ?_
    refine P_as e1 ?_
    refine P_iconst (pc' := 5) dX2_readPiece_4 rfl (v := 2) rfl ?_
    refine P_icmp_ne (tgt := 32) (pc' := 8) dX2_readPiece_5 rfl rfl (fun h5 => ?_) (fun h5 => ?_)
    · refine P_aload0 (pc' := 33) dX2_readPiece_32 rfl ?_
      refine P_geti (pc' := 36) dX2_readPiece_33 rfl fl_X2_18 rfl (l_22 hsh) (t_22 hsh) ?_
      refine P_as e1 ?_
      refine P_iconst (pc' := 37) dX2_readPiece_36 rfl (v := 1) rfl ?_
      refine P_icmp_ne (tgt := 60) (pc' := 40) dX2_readPiece_37 rfl rfl (fun h37 => ?_) (fun h37 => ?_)
      · exact k60
      · exact absurd h37 (by decide)
    · exact absurd h5 (by decide)
/-! levels -/
theorem lvH_b {b : Nat → Int32} {x : Lx} {l : Nat} (h : lvH b x = some l) : x.1 = 3 ∧ l ≤ 4 := by
  unfold lvH at h
  split at h
  · rename_i q
    refine ⟨q, ?_⟩
    rcases sg_lv (b x.2.1) with ⟨z, -⟩ | ⟨l', kk, q1, q2, q3, q4, -⟩
    · rw [z] at h; cases h
    · rw [q1] at h
      have h : l' = l := Option.some.inj h
      omega
  · cases h
theorem lp_X2_readLevel {G : GX} {S : Shp} {I0 : Mem} {b : Nat → Int32} {d n key lv o k M : Nat} {F : RS → RS} (hsh : SHP S) (hn : n ≤ 96) (hlv : lv ≤ 4) (hM : M ≤ 96) (hd : 6 ≤ d)
    (ihL : ∀ (s : RS) (I : Mem), RdI b n (nI key) s I → PM G yX2_readLevel cX2_readLevel 7 none d 0 0 [.ref 22, .int (nI (lv + 1)), .int (nI o), .int (nI k)] S I (PoR b n (nI key) S I (F s))) :
    ∀ (m i : Nat) (s : RS) (I : Mem) (x6 : Option Value), i + m = M → RdI b n (nI key) s I → FrT I0 I → PW G RX2 "readLevel" cX2_readLevel 7 none (d + 1) 0 0 (PoR b n (nI key) S I0 (rdW F b n lv m s)) 37 [some (.ref 22), some (.int (nI lv)), some (.int (nI o)), some (.int (nI k)), some (.int (nI M)), some (.int (nI i)), x6] [] S I := by
  intro m
  induction m with
  | zero =>
    intro i s I x6 hi h hf
    refine P_iload5 (pc' := 39) dX2_readLevel_37 rfl ?_
    refine P_iload4 (pc' := 41) dX2_readLevel_39 rfl ?_
    refine P_icmp_ge (tgt := 92) (pc' := 44) dX2_readLevel_41 rfl rfl (fun h41 => ?_) (fun h41 => ?_)
    · refine P_vret dX2_readLevel_92 ?_
      exact ⟨rfl, rfl, h, hf⟩
    · exact absurd (nI_le (by omega) (by omega)) h41
  | succ m ih =>
    intro i s I x6 hi h hf
    rw [rdW_s]
    obtain ⟨⟨h22, hbt⟩, -⟩ := id h.1
    obtain ⟨h1, h2, h3⟩ := id h.2.1
    have hw := h.2.2
    have w3 := hw.2.2.1
    by_cases q : lvH b s.1 = some lv
    · rw [if_pos q]
      have lt := hw.2.2.2.1 (Or.inr (Or.inr (lvH_b q).1))
      refine P_iload5 (pc' := 39) dX2_readLevel_37 rfl ?_
      refine P_iload4 (pc' := 41) dX2_readLevel_39 rfl ?_
      refine P_icmp_ge (tgt := 92) (pc' := 44) dX2_readLevel_41 rfl rfl (fun h41 => ?_) (fun h41 => ?_)
      · exact absurd h41 (nI_ge (by omega) (by omega))
      · refine P_aload0 (pc' := 45) dX2_readLevel_44 rfl ?_
        refine P_callV0 (pc' := 48) dX2_readLevel_45 rfl lk_X2_112 (l_22 hsh) (t_22 hsh) (c_X2_levelHere (d := 0) hsh hn h) (by omega) (Nat.le_of_ble_eq_true rfl) (fun r S' I' hq => ?_)
        obtain ⟨rfl, rfl, rfl⟩ := hq
        refine P_as (y := nI lv) (by rw [q]; rfl) ?_
        refine P_iload1 (pc' := 49) dX2_readLevel_48 rfl ?_
        refine P_icmp_ne (tgt := 92) (pc' := 52) dX2_readLevel_49 rfl rfl (fun h49 => ?_) (fun h49 => ?_)
        · exact absurd rfl h49
        · refine P_aload0 (pc' := 53) dX2_readLevel_52 rfl ?_
          refine P_getr (pc' := 56) dX2_readLevel_53 rfl fl_X2_12 rfl (l_22 hsh) (t_22 hsh) (q_22_0 hsh) ?_
          refine P_getr (pc' := 59) dX2_readLevel_56 rfl fl_X2_84 rfl (l_23 hsh) (t_23 hsh) (q_23_0 hsh) ?_
          refine P_aload0 (pc' := 60) dX2_readLevel_59 rfl ?_
          refine P_geti (pc' := 63) dX2_readLevel_60 rfl fl_X2_22 rfl (l_22 hsh) (t_22 hsh) ?_
          refine P_as h2 ?_
          refine P_bald (pc' := 64) dX2_readLevel_63 rfl (l_24 hsh) (t_24 hsh) (j := s.1.2.1) rfl (by omega) (by decide) ?_
          rw [hbt]
          refine P_istore6 (pc' := 66) dX2_readLevel_64 rfl (by decide) rfl ?_
          refine P_aload0 (pc' := 67) dX2_readLevel_66 rfl ?_
          refine P_callV0 (pc' := 70) dX2_readLevel_67 rfl lk_X2_44 (l_22 hsh) (t_22 hsh) (c_X2_adv (d := 2) hsh hn h (by omega)) (by omega) (Nat.le_of_ble_eq_true rfl) (fun r S2 I2 hq => ?_)
          obtain ⟨rfl, rfl, h2b, f2⟩ := hq
          refine P_aload0 (pc' := 71) dX2_readLevel_70 rfl ?_
          refine P_iload1 (pc' := 72) dX2_readLevel_71 rfl ?_
          refine P_iconst (pc' := 73) dX2_readLevel_72 rfl (v := 1) rfl ?_
          refine P_iadd (pc' := 74) dX2_readLevel_73 rfl ?_
          refine P_iload2 (pc' := 75) dX2_readLevel_74 rfl ?_
          refine P_iload3 (pc' := 76) dX2_readLevel_75 rfl ?_
          rw [nI_1 lv]
          refine P_callV3 (pc' := 79) dX2_readLevel_76 rfl lk_X2_54 (l_22 hsh) (t_22 hsh) (ihL (ad b n s) I2 h2b) (by omega) (Nat.le_of_ble_eq_true rfl) (fun r S3 I3 hq => ?_); obtain ⟨rfl, rfl, h3b, f3⟩ := hq
          refine P_aload0 (pc' := 80) dX2_readLevel_79 rfl ?_
          refine P_iload6 (pc' := 82) dX2_readLevel_80 rfl ?_
          refine P_ineg (pc' := 83) dX2_readLevel_82 rfl ?_
          refine P_callV1 (pc' := 86) dX2_readLevel_83 rfl lk_X2_115 (l_22 hsh) (t_22 hsh) (c_X2_addStep (d := 0) hsh h3b) (by omega) (Nat.le_of_ble_eq_true rfl) (fun r S4 I4 hq => ?_)
          obtain ⟨rfl, rfl, h4b, f4⟩ := hq
          refine P_iinc5 (pc' := 89) dX2_readLevel_86 rfl (nI_1 i) (by decide) rfl ?_
          refine P_goto (tgt := 37) dX2_readLevel_89 rfl ?_
          exact ih (i + 1) _ I4 _ (by omega) h4b (hf.tr (((frT_24 f2).tr f3).tr f4))
    · rw [if_neg q]
      have ne : ¬ lvV (lvH b s.1) = nI lv := by
        cases hl : lvH b s.1 with
        | none =>
          intro z
          have z : (-1 : Int32) = nI lv := z
          have := nI_pos (n := lv) (by omega)
          rw [← z] at this
          exact this (by decide)
        | some l =>
          intro z
          have z : nI l = nI lv := z
          have hb := (lvH_b hl).2
          have := (nI_eq (by omega) (by omega)).mp z
          rw [hl, this] at q
          exact q rfl
      refine P_iload5 (pc' := 39) dX2_readLevel_37 rfl ?_
      refine P_iload4 (pc' := 41) dX2_readLevel_39 rfl ?_
      refine P_icmp_ge (tgt := 92) (pc' := 44) dX2_readLevel_41 rfl rfl (fun h41 => ?_) (fun h41 => ?_)
      · exact absurd h41 (nI_ge (by omega) (by omega))
      · refine P_aload0 (pc' := 45) dX2_readLevel_44 rfl ?_
        refine P_callV0 (pc' := 48) dX2_readLevel_45 rfl lk_X2_112 (l_22 hsh) (t_22 hsh) (c_X2_levelHere (d := 0) hsh hn h) (by omega) (Nat.le_of_ble_eq_true rfl) (fun r S' I' hq => ?_)
        obtain ⟨rfl, rfl, rfl⟩ := hq
        refine P_iload1 (pc' := 49) dX2_readLevel_48 rfl ?_
        refine P_icmp_ne (tgt := 92) (pc' := 52) dX2_readLevel_49 rfl rfl (fun h49 => ?_) (fun h49 => ?_)
        · refine P_vret dX2_readLevel_92 ?_
          exact ⟨rfl, rfl, h, hf⟩
        · exact absurd h49 ne
theorem c_rd {G : GX} {S : Shp} {b : Nat → Int32} {n key : Nat} (hsh : SHP S) (hn : n ≤ 96) (hky : key ≤ 2) : ∀ (f : Nat),
    (∀ (o k : Nat) (s : RS) (I : Mem), f = mu 6 o k + 1 → o ≤ 8 → k ≤ 8 → RdI b n (nI key) s I → PM G yX2_readPiece cX2_readPiece 3 none (f + 6) 0 0 [.ref 22, .int (nI o), .int (nI k)] S I (PoR b n (nI key) S I (rd key b n f 6 o k s))) ∧
    (∀ (lv o k : Nat) (s : RS) (I : Mem), f = mu lv o k + 1 → lv ≤ 5 → o ≤ 8 → k ≤ 8 → RdI b n (nI key) s I → PM G yX2_readLevel cX2_readLevel 7 none (f + 6) 0 0 [.ref 22, .int (nI lv), .int (nI o), .int (nI k)] S I (PoR b n (nI key) S I (rd key b n f lv o k s))) := by
  intro f
  induction f with
  | zero => exact ⟨fun o k s I h => absurd h (by omega), fun lv o k s I h => absurd h (by omega)⟩
  | succ f ih =>
    obtain ⟨ihP, ihL⟩ := ih
    constructor
    · intro o k s I hf ho hk h
      rw [rd_s, if_pos rfl, show f + 1 + 6 = f + 6 + 1 by omega]
      exact k_X2_piece hsh hn hky ho hk h (by omega) (fun q s I h => ihP o (k + 1) s I (by unfold mu at hf ⊢; omega) ho (by omega) h) (fun q s I h => ihL 0 (o + 1) k s I (by unfold mu at hf ⊢; omega) (by decide) (by omega) hk h)
    · intro lv o k s I hf hlv ho hk h
      rw [rd_s, if_neg (by omega), show f + 1 + 6 = f + 6 + 1 by omega]
      refine PM.of (ls := [some (.ref 22), some (.int (nI lv)), some (.int (nI o)), some (.int (nI k)), none, none, none]) (by decide) rfl (Nat.le_of_ble_eq_true rfl) rfl ?_
      show PW G RX2 "readLevel" _ _ _ _ _ _ _ _ _ _ _ _
      by_cases h5 : lv = 5
      · rw [if_pos h5]
        subst h5
        have ih := ihP o k s I (by unfold mu at hf ⊢; omega) ho hk h
        refine P_iload1 (pc' := 1) dX2_readLevel_0 rfl ?_
        refine P_iconst (pc' := 2) dX2_readLevel_1 rfl (v := 4) rfl ?_
        refine P_icmp_le (tgt := 12) (pc' := 5) dX2_readLevel_2 rfl rfl (fun h2 => ?_) (fun h2 => ?_)
        · exact absurd h2 (by decide)
        · refine P_aload0 (pc' := 6) dX2_readLevel_5 rfl ?_
          refine P_iload2 (pc' := 7) dX2_readLevel_6 rfl ?_
          refine P_iload3 (pc' := 8) dX2_readLevel_7 rfl ?_
          refine P_callV2 (pc' := 11) dX2_readLevel_8 rfl lk_X2_108 (l_22 hsh) (t_22 hsh) (ih) (by omega) (Nat.le_of_ble_eq_true rfl) (fun r S2 I2 hq => ?_)
          obtain ⟨rfl, rfl, h2b, f2⟩ := hq
          refine P_vret dX2_readLevel_11 ?_
          exact ⟨rfl, rfl, h2b, f2⟩
      · rw [if_neg h5]
        have ih : ∀ (s : RS) (I : Mem), RdI b n (nI key) s I → PM G yX2_readLevel cX2_readLevel 7 none (f + 6) 0 0 [.ref 22, .int (nI (lv + 1)), .int (nI o), .int (nI k)] S I (PoR b n (nI key) S I (rd key b n f (lv + 1) o k s)) := fun s I h => ihL (lv + 1) o k s I (by unfold mu at hf ⊢; omega) (by omega) ho hk h
        refine P_iload1 (pc' := 1) dX2_readLevel_0 rfl ?_
        refine P_iconst (pc' := 2) dX2_readLevel_1 rfl (v := 4) rfl ?_
        refine P_icmp_le (tgt := 12) (pc' := 5) dX2_readLevel_2 rfl rfl (fun h2 => ?_) (fun h2 => ?_)
        · refine P_aload0 (pc' := 13) dX2_readLevel_12 rfl ?_
          refine P_iload1 (pc' := 14) dX2_readLevel_13 rfl ?_
          refine P_iconst (pc' := 15) dX2_readLevel_14 rfl (v := 1) rfl ?_
          refine P_iadd (pc' := 16) dX2_readLevel_15 rfl ?_
          refine P_iload2 (pc' := 17) dX2_readLevel_16 rfl ?_
          refine P_iload3 (pc' := 18) dX2_readLevel_17 rfl ?_
          rw [nI_1 lv]
          refine P_callV3 (pc' := 21) dX2_readLevel_18 rfl lk_X2_54 (l_22 hsh) (t_22 hsh) (ih s I h) (by omega) (Nat.le_of_ble_eq_true rfl) (fun r S3 I3 hq => ?_); obtain ⟨rfl, rfl, h3b, f3⟩ := hq
          refine P_iload1 (pc' := 22) dX2_readLevel_21 rfl ?_
          refine P_iconst (pc' := 23) dX2_readLevel_22 rfl (v := 2) rfl ?_
          refine P_icmp_ne (tgt := 30) (pc' := 26) dX2_readLevel_23 rfl rfl (fun h23 => ?_) (fun h23 => ?_)
          · refine P_bipush (pc' := 32) dX2_readLevel_30 rfl (v := 96) rfl ?_
            refine P_istore4 (pc' := 34) dX2_readLevel_32 rfl (by decide) rfl ?_
            refine P_iconst (pc' := 35) dX2_readLevel_34 rfl (v := 0) rfl ?_
            refine P_istore5 (pc' := 37) dX2_readLevel_35 rfl (by decide) rfl ?_
            first
              | (have q : lv = 2 := (nI_eq (b := 2) (by omega) (by decide)).mp h23
                 rw [if_pos q]
                 exact lp_X2_readLevel (M := 1) hsh hn (by omega) (by decide) (by omega) ih 1 0 _ I3 _ (by omega) h3b f3)
              | (have q : ¬ lv = 2 := fun z => h23 (by rw [z]; rfl)
                 rw [if_neg q]
                 exact lp_X2_readLevel (M := 96) hsh hn (by omega) (by decide) (by omega) ih 96 0 _ I3 _ (by omega) h3b f3)
          · refine P_iconst (pc' := 27) dX2_readLevel_26 rfl (v := 1) rfl ?_
            refine P_goto (tgt := 32) dX2_readLevel_27 rfl ?_
            refine P_istore4 (pc' := 34) dX2_readLevel_32 rfl (by decide) rfl ?_
            refine P_iconst (pc' := 35) dX2_readLevel_34 rfl (v := 0) rfl ?_
            refine P_istore5 (pc' := 37) dX2_readLevel_35 rfl (by decide) rfl ?_
            first
              | (have q : lv = 2 := (nI_eq (b := 2) (by omega) (by decide)).mp h23
                 rw [if_pos q]
                 exact lp_X2_readLevel (M := 1) hsh hn (by omega) (by decide) (by omega) ih 1 0 _ I3 _ (by omega) h3b f3)
              | (have q : ¬ lv = 2 := fun z => h23 (by rw [z]; rfl)
                 rw [if_neg q]
                 exact lp_X2_readLevel (M := 96) hsh hn (by omega) (by decide) (by omega) ih 96 0 _ I3 _ (by omega) h3b f3)
        · exact absurd (nI_le (b := 4) (by omega) (by decide)) h2
/-- what the class finds -/
def ffS (b : Nat → Int32) (n key : Nat) : RS := rd key b n 71 0 0 0 (advL b n (advL b n (3, 0, 0)), none, [], 0)
theorem c_X2_findFault {G : GX} {S : Shp} {I : Mem} {b : Nat → Int32} {d n : Nat} (hsh : SHP S) (hG : (gFm G).category = 1) (hn : n ≤ 96) (h22 : I 23 1 = nI n) (hbt : I 24 = b) (hd : 80 ≤ d) : PM G yX2_findFault cX2_findFault 1 (some .int) d 0 0 [.ref 22] S I (fun r S' J => S = S' ∧ FrT I J ∧ match kyO b (advL b n (3, 0, 0)) with
    | none => r = some (.int (nI (advL b n (3, 0, 0)).2.1))
    | some key => r = some (.int (fvV (if (ffS b n key).1.1 = 0 then ffS b n key else fl (ffS b n key)).2.1)) ∧ RdI b n (nI key) (if (ffS b n key).1.1 = 0 then ffS b n key else fl (ffS b n key)) J) := by
  refine PM.of (ls := [some (.ref 22)]) (by decide) rfl (Nat.le_of_ble_eq_true rfl) rfl ?_
  show PW G RX2 "findFault" _ _ _ _ _ _ _ _ _ _ _ _
  have hx : WOk b n (advL b n (3, 0, 0)) := WOk.adv (x := (3, 0, 0)) (Nat.zero_le n)
  have k3 : ∀ k, kyO b (advL b n (3, 0, 0)) = some k → k ≤ 2 := by
    intro k hk
    unfold kyO at hk
    split at hk
    · have key : ∀ (x : Lx) (m j : Nat), kyF b x m j = some k → k < j + m := by
        intro x m
        induction m with
        | zero => intro j z; cases z
        | succ m ih =>
          intro j z
          rw [kyF_s] at z
          split at z
          · have := ih (j + 1) z; omega
          · cases z; omega
      have := key _ 3 0 hk
      omega
    · cases hk
  cases hk : kyO b (advL b n (3, 0, 0)) with
  | none =>
    refine P_aload0 (pc' := 1) dX2_findFault_0 rfl ?_
    refine P_iconst (pc' := 2) dX2_findFault_1 rfl (v := 3) rfl ?_
    refine P_puti (pc' := 5) dX2_findFault_2 rfl fl_X2_18 rfl (l_22 hsh) (t_22 hsh) ?_
    refine P_aload0 (pc' := 6) dX2_findFault_5 rfl ?_
    refine P_iconst (pc' := 7) dX2_findFault_6 rfl (v := 0) rfl ?_
    refine P_puti (pc' := 10) dX2_findFault_7 rfl fl_X2_25 rfl (l_22 hsh) (t_22 hsh) ?_
    refine P_aload0 (pc' := 11) dX2_findFault_10 rfl ?_
    refine P_iconst (pc' := 12) dX2_findFault_11 rfl (v := (-1)) rfl ?_
    refine P_puti (pc' := 15) dX2_findFault_12 rfl fl_X2_28 rfl (l_22 hsh) (t_22 hsh) ?_
    refine P_aload0 (pc' := 16) dX2_findFault_15 rfl ?_
    refine P_iconst (pc' := 17) dX2_findFault_16 rfl (v := 0) rfl ?_
    refine P_puti (pc' := 20) dX2_findFault_17 rfl fl_X2_38 rfl (l_22 hsh) (t_22 hsh) ?_
    refine P_aload0 (pc' := 21) dX2_findFault_20 rfl ?_
    refine P_iconst (pc' := 22) dX2_findFault_21 rfl (v := 0) rfl ?_
    refine P_puti (pc' := 25) dX2_findFault_22 rfl fl_X2_41 rfl (l_22 hsh) (t_22 hsh) ?_
    refine P_aload0 (pc' := 26) dX2_findFault_25 rfl ?_
    refine P_callV0 (pc' := 29) dX2_findFault_26 rfl lk_X2_44 (l_22 hsh) (t_22 hsh) (c_X2_advance (d := 10) (b := b) (n := n) (k := 3) (e := 0) (ky := I 22 5) (t := (none, [], 0)) hsh hn ⟨⟨by rw [u2_a (by decide), u2_a (by decide), u2_a (by decide), u2_a (by decide), u2_a (by decide)]; exact h22, by rw [u2_row (by decide), u2_row (by decide), u2_row (by decide), u2_row (by decide), u2_row (by decide)]; exact hbt⟩, by rw [u2_k (by decide), u2_k (by decide), u2_s]; rfl, by rw [u2_k (by decide), u2_k (by decide), u2_k (by decide), u2_k (by decide), u2_k (by decide)], ⟨by rw [u2_k (by decide), u2_s]; rfl, fun k z => absurd z (by show ¬ k < 0; omega)⟩, by rw [u2_s]; rfl, by decide, fun p z => by cases z⟩ (by rw [u2_k (by decide), u2_k (by decide), u2_k (by decide), u2_k (by decide), u2_s]; rfl) (by decide) (by rw [u2_k (by decide), u2_k (by decide), u2_k (by decide), u2_s]; rfl) (Nat.zero_le _) (by omega)) (by omega) (Nat.le_of_ble_eq_true rfl) (fun r S2 I2 hq => ?_)
    obtain ⟨rfl, rfl, h2, f2⟩ := hq
    refine P_aload0 (pc' := 30) dX2_findFault_29 rfl ?_
    refine P_aload0 (pc' := 31) dX2_findFault_30 rfl ?_
    refine P_callV0 (pc' := 34) dX2_findFault_31 rfl lk_X2_47 (l_22 hsh) (t_22 hsh) (c_X2_keyHere (d := 10) hsh hG hn h2 (by omega)) (by omega) (Nat.le_of_ble_eq_true rfl) (fun r S' I' hq => ?_)
    obtain ⟨rfl, rfl, rfl⟩ := hq
    refine P_as (y := -1) (by rw [hk]; rfl) ?_
    refine P_puti (pc' := 37) dX2_findFault_34 rfl fl_X2_31 rfl (l_22 hsh) (t_22 hsh) ?_
    refine P_aload0 (pc' := 38) dX2_findFault_37 rfl ?_
    refine P_geti (pc' := 41) dX2_findFault_38 rfl fl_X2_31 rfl (l_22 hsh) (t_22 hsh) ?_
    refine P_as (u2_s _ _ _ _) ?_
    refine P_if_ge (tgt := 51) (pc' := 44) dX2_findFault_41 rfl rfl (fun h41 => ?_) (fun h41 => ?_)
    · exact absurd h41 (by decide)
    · refine P_aload0 (pc' := 45) dX2_findFault_44 rfl ?_
      refine P_callV0 (pc' := 48) dX2_findFault_45 rfl lk_X2_51 (l_22 hsh) (t_22 hsh) (c_X2_fail (d := 0) (b := b) (n := n) (ky := -1) (s := (advL b n (3, 0, 0), none, [], 0)) hsh hn (by
    obtain ⟨⟨⟨a1, a2⟩, a3, a4, ⟨a5, a6⟩, a7, a8, a9⟩, ⟨c1, c2, c3⟩, hw⟩ := h2
    exact ⟨⟨⟨by rw [u2_a (by decide)]; exact a1, by rw [u2_row (by decide)]; exact a2⟩, by rw [u2_k (by decide)]; exact a3, u2_s _ _ _ _, ⟨by rw [u2_k (by decide)]; exact a5, fun k hk => by rw [u2_a (by decide)]; exact a6 k hk⟩, by rw [u2_k (by decide)]; exact a7, a8, a9⟩, ⟨by rw [u2_k (by decide)]; exact c1, by rw [u2_k (by decide)]; exact c2, by rw [u2_k (by decide)]; exact c3⟩, hw⟩)) (by omega) (Nat.le_of_ble_eq_true rfl) (fun r S3 I3 hq => ?_)
      obtain ⟨rfl, rfl, h3, f3⟩ := hq
      refine P_goto (tgt := 73) dX2_findFault_48 rfl ?_
      refine P_aload0 (pc' := 74) dX2_findFault_73 rfl ?_
      refine P_geti (pc' := 77) dX2_findFault_74 rfl fl_X2_28 rfl (l_22 hsh) (t_22 hsh) ?_
      refine P_iret dX2_findFault_77 ?_
      refine ⟨rfl, fun x a1 a2 => ?_, ?_⟩
      · rw [f3 x a1, u2_row a1, f2 x a1, u2_row a1, u2_row a1, u2_row a1, u2_row a1, u2_row a1]
      · rw [h3.1.2.1]; rfl
  | some key =>
    have hky := k3 key hk
    have hrd := (c_rd (G := G) (S := S) (b := b) (n := n) (key := key) hsh hn hky 71).2 0 0 0
    refine P_aload0 (pc' := 1) dX2_findFault_0 rfl ?_
    refine P_iconst (pc' := 2) dX2_findFault_1 rfl (v := 3) rfl ?_
    refine P_puti (pc' := 5) dX2_findFault_2 rfl fl_X2_18 rfl (l_22 hsh) (t_22 hsh) ?_
    refine P_aload0 (pc' := 6) dX2_findFault_5 rfl ?_
    refine P_iconst (pc' := 7) dX2_findFault_6 rfl (v := 0) rfl ?_
    refine P_puti (pc' := 10) dX2_findFault_7 rfl fl_X2_25 rfl (l_22 hsh) (t_22 hsh) ?_
    refine P_aload0 (pc' := 11) dX2_findFault_10 rfl ?_
    refine P_iconst (pc' := 12) dX2_findFault_11 rfl (v := (-1)) rfl ?_
    refine P_puti (pc' := 15) dX2_findFault_12 rfl fl_X2_28 rfl (l_22 hsh) (t_22 hsh) ?_
    refine P_aload0 (pc' := 16) dX2_findFault_15 rfl ?_
    refine P_iconst (pc' := 17) dX2_findFault_16 rfl (v := 0) rfl ?_
    refine P_puti (pc' := 20) dX2_findFault_17 rfl fl_X2_38 rfl (l_22 hsh) (t_22 hsh) ?_
    refine P_aload0 (pc' := 21) dX2_findFault_20 rfl ?_
    refine P_iconst (pc' := 22) dX2_findFault_21 rfl (v := 0) rfl ?_
    refine P_puti (pc' := 25) dX2_findFault_22 rfl fl_X2_41 rfl (l_22 hsh) (t_22 hsh) ?_
    refine P_aload0 (pc' := 26) dX2_findFault_25 rfl ?_
    refine P_callV0 (pc' := 29) dX2_findFault_26 rfl lk_X2_44 (l_22 hsh) (t_22 hsh) (c_X2_advance (d := 10) (b := b) (n := n) (k := 3) (e := 0) (ky := I 22 5) (t := (none, [], 0)) hsh hn ⟨⟨by rw [u2_a (by decide), u2_a (by decide), u2_a (by decide), u2_a (by decide), u2_a (by decide)]; exact h22, by rw [u2_row (by decide), u2_row (by decide), u2_row (by decide), u2_row (by decide), u2_row (by decide)]; exact hbt⟩, by rw [u2_k (by decide), u2_k (by decide), u2_s]; rfl, by rw [u2_k (by decide), u2_k (by decide), u2_k (by decide), u2_k (by decide), u2_k (by decide)], ⟨by rw [u2_k (by decide), u2_s]; rfl, fun k z => absurd z (by show ¬ k < 0; omega)⟩, by rw [u2_s]; rfl, by decide, fun p z => by cases z⟩ (by rw [u2_k (by decide), u2_k (by decide), u2_k (by decide), u2_k (by decide), u2_s]; rfl) (by decide) (by rw [u2_k (by decide), u2_k (by decide), u2_k (by decide), u2_s]; rfl) (Nat.zero_le _) (by omega)) (by omega) (Nat.le_of_ble_eq_true rfl) (fun r S2 I2 hq => ?_)
    obtain ⟨rfl, rfl, h2, f2⟩ := hq
    refine P_aload0 (pc' := 30) dX2_findFault_29 rfl ?_
    refine P_aload0 (pc' := 31) dX2_findFault_30 rfl ?_
    refine P_callV0 (pc' := 34) dX2_findFault_31 rfl lk_X2_47 (l_22 hsh) (t_22 hsh) (c_X2_keyHere (d := 10) hsh hG hn h2 (by omega)) (by omega) (Nat.le_of_ble_eq_true rfl) (fun r S' I' hq => ?_)
    obtain ⟨rfl, rfl, rfl⟩ := hq
    refine P_as (y := nI key) (by rw [hk]; rfl) ?_
    refine P_puti (pc' := 37) dX2_findFault_34 rfl fl_X2_31 rfl (l_22 hsh) (t_22 hsh) ?_
    refine P_aload0 (pc' := 38) dX2_findFault_37 rfl ?_
    refine P_geti (pc' := 41) dX2_findFault_38 rfl fl_X2_31 rfl (l_22 hsh) (t_22 hsh) ?_
    refine P_as (u2_s _ _ _ _) ?_
    refine P_if_ge (tgt := 51) (pc' := 44) dX2_findFault_41 rfl rfl (fun h41 => ?_) (fun h41 => ?_)
    · refine P_aload0 (pc' := 52) dX2_findFault_51 rfl ?_
      refine P_callV0 (pc' := 55) dX2_findFault_52 rfl lk_X2_44 (l_22 hsh) (t_22 hsh) (c_X2_adv (d := 2) (b := b) (n := n) (ky := nI key) (s := (advL b n (3, 0, 0), none, [], 0)) hsh hn (by
    obtain ⟨⟨⟨a1, a2⟩, a3, a4, ⟨a5, a6⟩, a7, a8, a9⟩, ⟨c1, c2, c3⟩, hw⟩ := h2
    exact ⟨⟨⟨by rw [u2_a (by decide)]; exact a1, by rw [u2_row (by decide)]; exact a2⟩, by rw [u2_k (by decide)]; exact a3, u2_s _ _ _ _, ⟨by rw [u2_k (by decide)]; exact a5, fun k hk => by rw [u2_a (by decide)]; exact a6 k hk⟩, by rw [u2_k (by decide)]; exact a7, a8, a9⟩, ⟨by rw [u2_k (by decide)]; exact c1, by rw [u2_k (by decide)]; exact c2, by rw [u2_k (by decide)]; exact c3⟩, hw⟩) (by omega)) (by omega) (Nat.le_of_ble_eq_true rfl) (fun r S3 I3 hq => ?_)
      obtain ⟨rfl, rfl, h3, f3⟩ := hq
      refine P_aload0 (pc' := 56) dX2_findFault_55 rfl ?_
      refine P_iconst (pc' := 57) dX2_findFault_56 rfl (v := 0) rfl ?_
      refine P_iconst (pc' := 58) dX2_findFault_57 rfl (v := 0) rfl ?_
      refine P_iconst (pc' := 59) dX2_findFault_58 rfl (v := 0) rfl ?_
      refine P_callV3 (pc' := 62) dX2_findFault_59 rfl lk_X2_54 (l_22 hsh) (t_22 hsh) (hrd (ad b n (advL b n (3, 0, 0), none, [], 0)) I3 (by unfold mu; decide) (by decide) (by decide) (by decide) h3) (by omega) (Nat.le_of_ble_eq_true rfl) (fun r S5 I5 hq => ?_); obtain ⟨rfl, rfl, h5, f5⟩ := hq
      refine P_aload0 (pc' := 63) dX2_findFault_62 rfl ?_
      refine P_geti (pc' := 66) dX2_findFault_63 rfl fl_X2_18 rfl (l_22 hsh) (t_22 hsh) ?_
      refine P_as h5.2.1.1 ?_
      refine P_if_eq (tgt := 73) (pc' := 69) dX2_findFault_66 rfl rfl (fun h66 => ?_) (fun h66 => ?_)
      · refine P_aload0 (pc' := 74) dX2_findFault_73 rfl ?_
        refine P_geti (pc' := 77) dX2_findFault_74 rfl fl_X2_28 rfl (l_22 hsh) (t_22 hsh) ?_
        refine P_iret dX2_findFault_77 ?_
        have fr5 : FrT I I5 := fun x a1 a2 => by rw [f5 x a1 a2, f3 x a1, u2_row a1, f2 x a1, u2_row a1, u2_row a1, u2_row a1, u2_row a1, u2_row a1]
        have k4 := h5.2.2.1
        have e0 : rd key b n 71 0 0 0 (ad b n (advL b n (3, 0, 0), none, [], 0)) = ffS b n key := rfl
        rw [e0] at h5 h66 k4
        first
          | (have q : (ffS b n key).1.1 = 0 := (nI_eq (b := 0) (by omega) (by decide)).mp h66
             refine ⟨rfl, fr5, ?_⟩
             dsimp only
             rw [if_pos q]
             exact ⟨by rw [h5.1.2.1], h5⟩)
          | (have q : ¬ (ffS b n key).1.1 = 0 := fun z => h66 (by rw [z]; rfl)
             rw [e0] at h6
             refine ⟨rfl, fun x a1 a2 => by rw [f6 x a1]; exact fr5 x a1 a2, ?_⟩
             dsimp only
             rw [if_neg q]
             exact ⟨by rw [h6.1.2.1], h6⟩)
      · refine P_aload0 (pc' := 70) dX2_findFault_69 rfl ?_
        refine P_callV0 (pc' := 73) dX2_findFault_70 rfl lk_X2_51 (l_22 hsh) (t_22 hsh) (c_X2_fail (d := 0) hsh hn h5) (by omega) (Nat.le_of_ble_eq_true rfl) (fun r S6 I6 hq => ?_)
        obtain ⟨rfl, rfl, h6, f6⟩ := hq
        refine P_aload0 (pc' := 74) dX2_findFault_73 rfl ?_
        refine P_geti (pc' := 77) dX2_findFault_74 rfl fl_X2_28 rfl (l_22 hsh) (t_22 hsh) ?_
        refine P_iret dX2_findFault_77 ?_
        have fr5 : FrT I I5 := fun x a1 a2 => by rw [f5 x a1 a2, f3 x a1, u2_row a1, f2 x a1, u2_row a1, u2_row a1, u2_row a1, u2_row a1, u2_row a1]
        have k4 := h5.2.2.1
        have e0 : rd key b n 71 0 0 0 (ad b n (advL b n (3, 0, 0), none, [], 0)) = ffS b n key := rfl
        rw [e0] at h5 h66 k4
        first
          | (have q : (ffS b n key).1.1 = 0 := (nI_eq (b := 0) (by omega) (by decide)).mp h66
             refine ⟨rfl, fr5, ?_⟩
             dsimp only
             rw [if_pos q]
             exact ⟨by rw [h5.1.2.1], h5⟩)
          | (have q : ¬ (ffS b n key).1.1 = 0 := fun z => h66 (by rw [z]; rfl)
             rw [e0] at h6
             refine ⟨rfl, fun x a1 a2 => by rw [f6 x a1]; exact fr5 x a1 a2, ?_⟩
             dsimp only
             rw [if_neg q]
             exact ⟨by rw [h6.1.2.1], h6⟩)
    · exact absurd (nI_pos' (by omega)) h41

