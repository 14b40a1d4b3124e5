theorem plc_n {c g s : Nat} (hc : 1 ≤ c) : (nI s * 9 + nI c - 1) * 10 + nI g = nI (plc c g s) := by
  have e1 : nI s * 9 = nI (s * 9) := pk_mul s 9
  rw [e1, nI_add, show (1 : Int32) = nI 1 from rfl, pk_sub (by omega), show (10 : Int32) = nI 10 from rfl, pk_mul, nI_add]
  rfl
theorem plc_lt {c g s : Nat} (h1 : 1 ≤ c) (h2 : c ≤ 9) (h3 : g ≤ 9) (h4 : s ≤ 20) : plc c g s < 1890 := by unfold plc; omega
theorem plc_inj {c g s c' g' s' : Nat} (h1 : 1 ≤ c) (h2 : c ≤ 9) (h3 : g ≤ 9) (h1' : 1 ≤ c') (h2' : c' ≤ 9) (h3' : g' ≤ 9) (h : plc c g s = plc c' g' s') : c = c' ∧ g = g' ∧ s = s' := by unfold plc at h; omega
theorem i_11 (x : Int32) : 1 + x - 1 = x := by rw [Int32.add_comm, Int32.add_sub_cancel]
theorem TxOk.mv {S : Shp} {I J : Mem} {t len sz : Nat} {steps : Nat → Int32} (h : TxOk S I t len sz steps) (hk : J (t + 1) = I (t + 1)) : TxOk S J t len sz steps := by
  obtain ⟨t1, t2, t3, t4, t5, t6, t7, t8, t9, t10⟩ := h
  exact ⟨t1, t2, t3, t4, t5, t6, t7, t8, fun k hk2 => by rw [hk]; exact t9 k hk2, t10⟩
theorem AlOk.mv {S : Shp} {I J : Mem} {al : Int32 → Int32 → Int32 → Int32} (h : AlOk S I al) (h28 : J 28 = I 28) (hk : ∀ x, 77 ≤ x → x % 3 = 0 → J x = I x) : AlOk S J al := by
  rcases h with ⟨h1, h2⟩ | ⟨t, len, sz, steps, h1, h2, h3, h4, h5⟩
  · exact Or.inl ⟨h1, h2⟩
  · refine Or.inr ⟨t, len, sz, steps, h1, h2.mv (hk _ (by have := h2.1; omega) (by have := h2.2.1; omega)), h3, h4, ?_⟩
    rw [h28]
    exact h5
theorem c_X0_asBeggar {G : GX} {S : Shp} {I : Mem} {d c g s : Nat} {al : Int32 → Int32 → Int32 → Int32} (hsh : SHP S) (hal : AlOk S I al) (c1 : 1 ≤ c) (c9 : c ≤ 9) (g9 : g ≤ 9) (s20 : s ≤ 20) (hd : 2 ≤ d) : PM G yX0_asBeggar cX0_asBeggar 5 (some .int) d 0 0 [.ref 27, .int (nI c), .int (nI g), .int (nI s)] S I (fun r S' I' => r = some (.int (al (nI c) (nI g) (nI s))) ∧ S = S' ∧ AlOk S I' al ∧ ∀ x, ¬ Scr x → I' x = I x) := by
  refine PM.of (ls := [some (.ref 27), some (.int (nI c)), some (.int (nI g)), some (.int (nI s)), none]) (by decide) rfl (Nat.le_of_ble_eq_true rfl) rfl ?_
  show PW G RX0 "asBeggar" _ _ _ _ _ _ _ _ _ _ _ _
  rcases id hal with ⟨h1, h2⟩ | ⟨t, len, sz, steps, h1, h2, h3, h4, h5⟩
  · skip
    refine P_aload0 (pc' := 1) dX0_asBeggar_0 rfl ?_
    refine P_getn (pc' := 4) dX0_asBeggar_1 rfl fl_X0_9 rfl (l_27 hsh) (t_27 hsh) h1 ?_
    refine P_nonnullN (pc' := 7) dX0_asBeggar_4 rfl ?_
    refine P_iload1 (pc' := 8) dX0_asBeggar_7 rfl ?_
    refine P_iload2 (pc' := 9) dX0_asBeggar_8 rfl ?_
    refine P_imul (pc' := 10) dX0_asBeggar_9 rfl ?_
    refine P_bipush (pc' := 12) dX0_asBeggar_10 rfl (v := 9) rfl ?_
    refine P_idiv (pc' := 13) dX0_asBeggar_12 rfl (by decide) ?_
    refine P_iload3 (pc' := 14) dX0_asBeggar_13 rfl ?_
    refine P_iconst (pc' := 15) dX0_asBeggar_14 rfl (v := 5) rfl ?_
    refine P_idiv (pc' := 16) dX0_asBeggar_15 rfl (by decide) ?_
    refine P_iadd (pc' := 17) dX0_asBeggar_16 rfl ?_
    refine P_iret dX0_asBeggar_17 ?_
    exact ⟨by rw [h2]; rfl, rfl, hal, fun x _ => rfl⟩
  · have hlt := plc_lt c1 c9 g9 s20
    have htx := id h2
    obtain ⟨t1, t2, t3, t4, t5, t6, t7, t8, t9, t10⟩ := h2
    have ev : (gvG (nI c) (nI g) (nI s) sz steps len 0 (0, I (t + 2))).2 0 = (gvG (nI c) (nI g) (nI s) sz steps len 0 (0, fun _ => 0)).2 0 := h3 _ _ _ _
    have ea : al (nI c) (nI g) (nI s) = hl ((gvG (nI c) (nI g) (nI s) sz steps len 0 (0, I (t + 2))).2 0) 0 99 := by rw [h4, ev]; rfl
    have aB1 : I 28 (plc c g s) ≠ 0 → ∃ e : I 28 (plc c g s) - 1 = al (nI c) (nI g) (nI s), True := by
      intro h
      rcases h5 c g s c1 c9 g9 s20 with q | q
      · exact absurd q h
      · exact ⟨by rw [q, i_11], trivial⟩
    have hn1 : AlOk S (u2 (sR I (t + 2) (gvG (nI c) (nI g) (nI s) sz steps len 0 (0, I (t + 2))).2) 28 (plc c g s) (1 + hl ((gvG (nI c) (nI g) (nI s) sz steps len 0 (0, I (t + 2))).2 0) 0 99)) al := by
      refine Or.inr ⟨t, len, sz, steps, h1, htx.mv ?_, h3, h4, ?_⟩
      · rw [u2_row (by omega), sR_n (by omega)]
      · intro c' g' s' a1 a2 a3 a4
        by_cases q : plc c' g' s' = plc c g s
        · obtain ⟨rfl, rfl, rfl⟩ := plc_inj a1 a2 a3 c1 c9 g9 q
          rw [u2_s, ← ea]
          exact Or.inr rfl
        · rw [u2_k q, sR_n (by omega)]
          exact h5 c' g' s' a1 a2 a3 a4
    have hn2 : ∀ x, ¬ Scr x → (u2 (sR I (t + 2) (gvG (nI c) (nI g) (nI s) sz steps len 0 (0, I (t + 2))).2) 28 (plc c g s) (1 + hl ((gvG (nI c) (nI g) (nI s) sz steps len 0 (0, I (t + 2))).2 0) 0 99)) x = I x := by
      intro x hx
      have n1 : x ≠ 28 := fun q => hx (Or.inl q)
      have n2 : x ≠ t + 2 := fun q => hx (Or.inr ⟨by omega, by omega⟩)
      rw [u2_row n1, sR_n n2]
    refine P_aload0 (pc' := 1) dX0_asBeggar_0 rfl ?_
    refine P_getr (pc' := 4) dX0_asBeggar_1 rfl fl_X0_9 rfl (l_27 hsh) (t_27 hsh) h1 ?_
    refine P_nonnull (tgt := 18) dX0_asBeggar_4 rfl ?_
    refine P_iload3 (pc' := 19) dX0_asBeggar_18 rfl ?_
    refine P_bipush (pc' := 21) dX0_asBeggar_19 rfl (v := 9) rfl ?_
    refine P_imul (pc' := 22) dX0_asBeggar_21 rfl ?_
    refine P_iload1 (pc' := 23) dX0_asBeggar_22 rfl ?_
    refine P_iadd (pc' := 24) dX0_asBeggar_23 rfl ?_
    refine P_iconst (pc' := 25) dX0_asBeggar_24 rfl (v := 1) rfl ?_
    refine P_isub (pc' := 26) dX0_asBeggar_25 rfl ?_
    refine P_bipush (pc' := 28) dX0_asBeggar_26 rfl (v := 10) rfl ?_
    refine P_imul (pc' := 29) dX0_asBeggar_28 rfl ?_
    refine P_iload2 (pc' := 30) dX0_asBeggar_29 rfl ?_
    refine P_iadd (pc' := 31) dX0_asBeggar_30 rfl ?_
    refine P_as (y := nI (plc c g s)) (plc_n c1) ?_
    refine P_istore4 (pc' := 33) dX0_asBeggar_31 rfl (by decide) rfl ?_
    refine P_iload4 (pc' := 35) dX0_asBeggar_33 rfl ?_
    refine P_if_lt (tgt := 48) (pc' := 38) dX0_asBeggar_35 rfl rfl (fun h35 => ?_) (fun h35 => ?_)
    · exact absurd h35 (nI_pos (by omega))
    · refine P_iload4 (pc' := 40) dX0_asBeggar_38 rfl ?_
      refine P_aload0 (pc' := 41) dX0_asBeggar_40 rfl ?_
      refine P_getr (pc' := 44) dX0_asBeggar_41 rfl fl_X0_15 rfl (l_27 hsh) (t_27 hsh) (q_27_1 hsh) ?_
      refine P_alen (pc' := 45) dX0_asBeggar_44 rfl (l_28 hsh) (t_28 hsh) (by decide) (by decide) ?_
      refine P_icmp_lt (tgt := 50) (pc' := 48) dX0_asBeggar_45 rfl rfl (fun h45 => ?_) (fun h45 => ?_)
      · refine P_aload0 (pc' := 51) dX0_asBeggar_50 rfl ?_
        refine P_getr (pc' := 54) dX0_asBeggar_51 rfl fl_X0_15 rfl (l_27 hsh) (t_27 hsh) (q_27_1 hsh) ?_
        refine P_iload4 (pc' := 56) dX0_asBeggar_54 rfl ?_
        refine P_iald (pc' := 57) dX0_asBeggar_56 rfl (l_28 hsh) (t_28 hsh) (j := plc c g s) rfl hlt (by decide) ?_
        refine P_if_ne (tgt := 85) (pc' := 60) dX0_asBeggar_57 rfl rfl (fun h57 => ?_) (fun h57 => ?_)
        · refine P_aload0 (pc' := 86) dX0_asBeggar_85 rfl ?_
          refine P_getr (pc' := 89) dX0_asBeggar_86 rfl fl_X0_15 rfl (l_27 hsh) (t_27 hsh) (q_27_1 hsh) ?_
          refine P_iload4 (pc' := 91) dX0_asBeggar_89 rfl ?_
          refine P_iald (pc' := 92) dX0_asBeggar_91 rfl (l_28 hsh) (t_28 hsh) (j := plc c g s) rfl hlt (by decide) ?_
          refine P_iconst (pc' := 93) dX0_asBeggar_92 rfl (v := 1) rfl ?_
          refine P_isub (pc' := 94) dX0_asBeggar_93 rfl ?_
          refine P_iret dX0_asBeggar_94 ?_
          first
            | exact ⟨by rw [(aB1 h57).1], rfl, hal, fun x _ => rfl⟩
            | exact ⟨by rw [u2_s, i_11, ea], rfl, hn1, hn2⟩
        · refine P_aload0 (pc' := 61) dX0_asBeggar_60 rfl ?_
          refine P_getr (pc' := 64) dX0_asBeggar_61 rfl fl_X0_15 rfl (l_27 hsh) (t_27 hsh) (q_27_1 hsh) ?_
          refine P_iload4 (pc' := 66) dX0_asBeggar_64 rfl ?_
          refine P_iconst (pc' := 67) dX0_asBeggar_66 rfl (v := 1) rfl ?_
          refine P_aload0 (pc' := 68) dX0_asBeggar_67 rfl ?_
          refine P_getr (pc' := 71) dX0_asBeggar_68 rfl fl_X0_9 rfl (l_27 hsh) (t_27 hsh) h1 ?_
          refine P_iload1 (pc' := 72) dX0_asBeggar_71 rfl ?_
          refine P_iload2 (pc' := 73) dX0_asBeggar_72 rfl ?_
          refine P_iload3 (pc' := 74) dX0_asBeggar_73 rfl ?_
          refine P_callV3 (pc' := 77) dX0_asBeggar_74 rfl lk_X0_25 (by omega) t4 (c_X7_gives (d := 1) htx (nI c) (nI g) (nI s) (by omega)) (by omega) (Nat.le_of_ble_eq_true rfl) (fun r S' I' hq => ?_)
          obtain ⟨rfl, rfl, rfl⟩ := hq
          refine P_iconst (pc' := 78) dX0_asBeggar_77 rfl (v := 0) rfl ?_
          refine P_bipush (pc' := 80) dX0_asBeggar_78 rfl (v := 99) rfl ?_
          refine P_callSN3 (pc' := 83) dX0_asBeggar_80 rfl lk_X0_31 (c_X8_held (d := 0) _ 0 99) (by omega) (Nat.le_of_ble_eq_true rfl) (fun r S' I' hq => ?_)
          obtain ⟨rfl, rfl, rfl⟩ := hq
          refine P_iadd (pc' := 84) dX0_asBeggar_83 rfl ?_
          refine P_iast (pc' := 85) dX0_asBeggar_84 rfl (l_28 hsh) (t_28 hsh) (j := plc c g s) rfl hlt (by decide) ?_
          refine P_aload0 (pc' := 86) dX0_asBeggar_85 rfl ?_
          refine P_getr (pc' := 89) dX0_asBeggar_86 rfl fl_X0_15 rfl (l_27 hsh) (t_27 hsh) (q_27_1 hsh) ?_
          refine P_iload4 (pc' := 91) dX0_asBeggar_89 rfl ?_
          refine P_iald (pc' := 92) dX0_asBeggar_91 rfl (l_28 hsh) (t_28 hsh) (j := plc c g s) rfl hlt (by decide) ?_
          refine P_iconst (pc' := 93) dX0_asBeggar_92 rfl (v := 1) rfl ?_
          refine P_isub (pc' := 94) dX0_asBeggar_93 rfl ?_
          refine P_iret dX0_asBeggar_94 ?_
          first
            | exact ⟨by rw [(aB1 h57).1], rfl, hal, fun x _ => rfl⟩
            | exact ⟨by rw [u2_s, i_11, ea], rfl, hn1, hn2⟩
      · exact absurd (nI_lt (a := plc c g s) (b := 1890) hlt (by decide)) h45

