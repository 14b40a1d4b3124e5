/-! a slot another -/
def lyU (T : Mem) (b : Nat) (y a c : Int32) : Mem := u2 (u2 (u2 T 71 b y) 72 b a) 73 b c
theorem lyU_o {T : Mem} {b x : Nat} {y a c : Int32} (h1 : x ≠ 71) (h2 : x ≠ 72) (h3 : x ≠ 73) : lyU T b y a c x = T x := by unfold lyU; rw [u2_row h3, u2_row h2, u2_row h1]
theorem lyU_1 {T : Mem} {b : Nat} {y a c : Int32} : lyU T b y a c 71 b = y ∧ lyU T b y a c 72 b = a ∧ lyU T b y a c 73 b = c := by
  unfold lyU
  exact ⟨by rw [u2_a (by decide), u2_a (by decide), u2_s], by rw [u2_a (by decide), u2_s], u2_s _ _ _ _⟩
theorem lyU_n {T : Mem} {b j : Nat} {y a c : Int32} (h : j ≠ b) : lyU T b y a c 71 j = T 71 j ∧ lyU T b y a c 72 j = T 72 j ∧ lyU T b y a c 73 j = T 73 j := by
  unfold lyU
  exact ⟨by rw [u2_k h, u2_k h, u2_k h], by rw [u2_k h, u2_k h, u2_k h], by rw [u2_k h, u2_k h, u2_k h]⟩
def lyF (T : Mem) (b k : Nat) : Nat → Int32 := fun x => if 24 * b ≤ x ∧ x < 24 * b + 24 then T 70 (24 * k + (x - 24 * b)) else T 74 x
def oLay (T : Mem) (b y k : Int32) : Int32 × Mem := if wi b 0 4 = 0 then (-1000000001, T) else if wi y 0 3 = 0 then (-1000000001, T) else if y = 1 then (if wi k 0 (aR T 1 - 1) = 0 then (-1000000001, T) else (T 71 b.toNatClampNeg, lyU T b.toNatClampNeg 1 (aR T (16 + 5 * k.toNatClampNeg)) (kWorth (aR T (16 + 5 * k.toNatClampNeg)) (aR T (18 + 5 * k.toNatClampNeg))))) else if y = 2 then (if wi k 0 3 = 0 then (-1000000001, T) else if T 68 k.toNatClampNeg = -1 then (-1000000011, T) else (T 71 b.toNatClampNeg, sR (lyU T b.toNatClampNeg 2 (T 69 k.toNatClampNeg) 0) 74 (lyF T b.toNatClampNeg k.toNatClampNeg))) else (T 71 b.toNatClampNeg, lyU T b.toNatClampNeg y k 0)
theorem x_lay {G : GX} {S : Shp} {I T : Mem} {d tn bn : Nat} {tx : Nat → Tx} (hK : K S I T tn bn tx) (b y k : Int32) (hd : 12 ≤ d) : PM G yX8_lay cX8_lay 6 (some .int) d 0 0 [.ref 0, .int b, .int y, .int k] S I (CO I (oLay T b y k).2 tn bn tx (oLay T b y k).1) := by
  obtain ⟨n, hn, hw, hA, hz, ht⟩ := hK.n
  have hsh := hK.2.1
  refine PM.of (ls := [some (.ref 0), some (.int b), some (.int y), some (.int k), none, none]) (by decide) rfl (Nat.le_of_ble_eq_true rfl) rfl ?_
  show PW G RX8 "lay" _ _ _ _ _ _ _ _ _ _ _ _
  by_cases hb : wi b 0 4 = 0
  · have eo : oLay T b y k = (-1000000001, T) := if_pos hb
    refine P_iload1 (pc' := 1) dX8_lay_0 rfl ?_
    refine P_callS1 (pc' := 4) dX8_lay_1 rfl lk_X8_271 (c_X8_isSlot (d := 1) b (by omega)) (by omega) (Nat.le_of_ble_eq_true rfl) (fun r S' I' hq => ?_)
    obtain ⟨rfl, rfl, rfl⟩ := hq
    refine P_if_eq (tgt := 16) (pc' := 7) dX8_lay_4 rfl rfl (fun h4 => ?_) (fun h4 => ?_)
    · refine P_ldc (pc' := 18) dX8_lay_16 rfl co_X8_81 ?_
      refine P_iret dX8_lay_18 ?_
      exact CO.n eo hK
    · exact absurd hb h4
  by_cases hy : wi y 0 3 = 0
  · have eo : oLay T b y k = (-1000000001, T) := (if_neg hb).trans (if_pos hy)
    refine P_iload1 (pc' := 1) dX8_lay_0 rfl ?_
    refine P_callS1 (pc' := 4) dX8_lay_1 rfl lk_X8_271 (c_X8_isSlot (d := 1) b (by omega)) (by omega) (Nat.le_of_ble_eq_true rfl) (fun r S' I' hq => ?_)
    obtain ⟨rfl, rfl, rfl⟩ := hq
    refine P_if_eq (tgt := 16) (pc' := 7) dX8_lay_4 rfl rfl (fun h4 => ?_) (fun h4 => ?_)
    · exact absurd h4 hb
    · refine P_iload2 (pc' := 8) dX8_lay_7 rfl ?_
      refine P_iconst (pc' := 9) dX8_lay_8 rfl (v := 0) rfl ?_
      refine P_iconst (pc' := 10) dX8_lay_9 rfl (v := 3) rfl ?_
      refine P_callS3 (pc' := 13) dX8_lay_10 rfl lk_X8_77 (c_X8_wi (d := 0) y 0 3) (by omega) (Nat.le_of_ble_eq_true rfl) (fun r S' I' hq => ?_)
      obtain ⟨rfl, rfl, rfl⟩ := hq
      refine P_if_ne (tgt := 19) (pc' := 16) dX8_lay_13 rfl rfl (fun h13 => ?_) (fun h13 => ?_)
      · exact absurd hy h13
      · refine P_ldc (pc' := 18) dX8_lay_16 rfl co_X8_81 ?_
        refine P_iret dX8_lay_18 ?_
        exact CO.n eo hK
  obtain ⟨i, hi, rfl⟩ := wi_b (m := 4) (by decide) hb
  obtain ⟨c1, c2, c3, c4⟩ := hK.2.2.2.2.2.2.2.1 i (by omega)
  have eo : oLay T (nI i) y k = if y = 1 then (if wi k 0 (nI n - 1) = 0 then (-1000000001, T) else (T 71 i, lyU T i 1 (aR T (16 + 5 * k.toNatClampNeg)) (kWorth (aR T (16 + 5 * k.toNatClampNeg)) (aR T (18 + 5 * k.toNatClampNeg))))) else if y = 2 then (if wi k 0 3 = 0 then (-1000000001, T) else if T 68 k.toNatClampNeg = -1 then (-1000000011, T) else (T 71 i, sR (lyU T i 2 (T 69 k.toNatClampNeg) 0) 74 (lyF T i k.toNatClampNeg))) else (T 71 i, lyU T i y k 0) := by unfold oLay; rw [if_neg hb, if_neg hy, nI_clamp (by omega), hw.1]
  by_cases y1 : y = 1
  · subst y1
    rw [if_pos rfl] at eo
    by_cases hk : wi k 0 (nI n - 1) = 0
    · rw [if_pos hk] at eo
      refine P_iload1 (pc' := 1) dX8_lay_0 rfl ?_
      refine P_callS1 (pc' := 4) dX8_lay_1 rfl lk_X8_271 (c_X8_isSlot (d := 1) _ (by omega)) (by omega) (Nat.le_of_ble_eq_true rfl) (fun r S' I' hq => ?_)
      obtain ⟨rfl, rfl, rfl⟩ := hq
      refine P_if_eq (tgt := 16) (pc' := 7) dX8_lay_4 rfl rfl (fun h4 => ?_) (fun h4 => ?_)
      · exact absurd h4 hb
      · refine P_iload2 (pc' := 8) dX8_lay_7 rfl ?_
        refine P_iconst (pc' := 9) dX8_lay_8 rfl (v := 0) rfl ?_
        refine P_iconst (pc' := 10) dX8_lay_9 rfl (v := 3) rfl ?_
        refine P_callS3 (pc' := 13) dX8_lay_10 rfl lk_X8_77 (c_X8_wi (d := 0) 1 0 3) (by omega) (Nat.le_of_ble_eq_true rfl) (fun r S' I' hq => ?_)
        obtain ⟨rfl, rfl, rfl⟩ := hq
        refine P_if_ne (tgt := 19) (pc' := 16) dX8_lay_13 rfl rfl (fun h13 => ?_) (fun h13 => ?_)
        · refine P_iload2 (pc' := 20) dX8_lay_19 rfl ?_
          refine P_iconst (pc' := 21) dX8_lay_20 rfl (v := 1) rfl ?_
          refine P_icmp_ne (tgt := 32) (pc' := 24) dX8_lay_21 rfl rfl (fun h21 => ?_) (fun h21 => ?_)
          · exact absurd rfl h21
          · refine P_aload0 (pc' := 25) dX8_lay_24 rfl ?_
            refine P_iload3 (pc' := 26) dX8_lay_25 rfl ?_
            refine P_callV1 (pc' := 29) dX8_lay_26 rfl lk_X8_90 (l_0 hsh) (t_0 hsh) (c_X8_isBeggar (d := 1) k hsh hz (by omega)) (by omega) (Nat.le_of_ble_eq_true rfl) (fun r S' I' hq => ?_)
            obtain ⟨rfl, rfl, rfl⟩ := hq
            refine P_if_eq (tgt := 44) (pc' := 32) dX8_lay_29 rfl rfl (fun h29 => ?_) (fun h29 => ?_)
            · refine P_ldc (pc' := 46) dX8_lay_44 rfl co_X8_81 ?_
              refine P_iret dX8_lay_46 ?_
              exact CO.n eo hK
            · exact absurd hk h29
        · exact absurd h13 hy
    · rw [if_neg hk] at eo
      obtain ⟨j, hj, rfl⟩ := wi_n (by omega) hk
      rw [nI_clamp (by omega)] at eo
      obtain ⟨r0, r1, r2, r3, r4⟩ := hK.rd (show j < 9 by omega)
      obtain ⟨k1, -, -⟩ := hw.2.2.2.2 j (by omega)
      refine P_iload1 (pc' := 1) dX8_lay_0 rfl ?_
      refine P_callS1 (pc' := 4) dX8_lay_1 rfl lk_X8_271 (c_X8_isSlot (d := 1) _ (by omega)) (by omega) (Nat.le_of_ble_eq_true rfl) (fun r S' I' hq => ?_)
      obtain ⟨rfl, rfl, rfl⟩ := hq
      refine P_if_eq (tgt := 16) (pc' := 7) dX8_lay_4 rfl rfl (fun h4 => ?_) (fun h4 => ?_)
      · exact absurd h4 hb
      · refine P_iload2 (pc' := 8) dX8_lay_7 rfl ?_
        refine P_iconst (pc' := 9) dX8_lay_8 rfl (v := 0) rfl ?_
        refine P_iconst (pc' := 10) dX8_lay_9 rfl (v := 3) rfl ?_
        refine P_callS3 (pc' := 13) dX8_lay_10 rfl lk_X8_77 (c_X8_wi (d := 0) 1 0 3) (by omega) (Nat.le_of_ble_eq_true rfl) (fun r S' I' hq => ?_)
        obtain ⟨rfl, rfl, rfl⟩ := hq
        refine P_if_ne (tgt := 19) (pc' := 16) dX8_lay_13 rfl rfl (fun h13 => ?_) (fun h13 => ?_)
        · refine P_iload2 (pc' := 20) dX8_lay_19 rfl ?_
          refine P_iconst (pc' := 21) dX8_lay_20 rfl (v := 1) rfl ?_
          refine P_icmp_ne (tgt := 32) (pc' := 24) dX8_lay_21 rfl rfl (fun h21 => ?_) (fun h21 => ?_)
          · exact absurd rfl h21
          · refine P_aload0 (pc' := 25) dX8_lay_24 rfl ?_
            refine P_iload3 (pc' := 26) dX8_lay_25 rfl ?_
            refine P_callV1 (pc' := 29) dX8_lay_26 rfl lk_X8_90 (l_0 hsh) (t_0 hsh) (c_X8_isBeggar (d := 1) _ hsh hz (by omega)) (by omega) (Nat.le_of_ble_eq_true rfl) (fun r S' I' hq => ?_)
            obtain ⟨rfl, rfl, rfl⟩ := hq
            refine P_if_eq (tgt := 44) (pc' := 32) dX8_lay_29 rfl rfl (fun h29 => ?_) (fun h29 => ?_)
            · exact absurd h29 hk
            · refine P_iload2 (pc' := 33) dX8_lay_32 rfl ?_
              refine P_iconst (pc' := 34) dX8_lay_33 rfl (v := 2) rfl ?_
              refine P_icmp_ne (tgt := 47) (pc' := 37) dX8_lay_34 rfl rfl (fun h34 => ?_) (fun h34 => ?_)
              · refine P_iload2 (pc' := 48) dX8_lay_47 rfl ?_
                refine P_iconst (pc' := 49) dX8_lay_48 rfl (v := 2) rfl ?_
                refine P_icmp_ne (tgt := 67) (pc' := 52) dX8_lay_49 rfl rfl (fun h49 => ?_) (fun h49 => ?_)
                · refine P_aload0 (pc' := 68) dX8_lay_67 rfl ?_
                  refine P_getr (pc' := 71) dX8_lay_68 rfl fl_X8_59 rfl (l_0 hsh) (t_0 hsh) (q_0_9 hsh) ?_
                  refine P_iload1 (pc' := 72) dX8_lay_71 rfl ?_
                  refine P_aald14 (pc' := 73) dX8_lay_72 rfl (l_30 hsh) (t_30 hsh) (j := i) rfl (by omega) (by decide) (sl_q hsh (by omega)) ?_
                  refine P_astore4 (pc' := 75) dX8_lay_73 rfl (by decide) rfl ?_
                  refine P_aload4 (pc' := 77) dX8_lay_75 rfl ?_
                  refine P_geti (pc' := 80) dX8_lay_77 rfl fl_X8_274 rfl (sl_l hsh (show i < 5 by omega)) (sl_t hsh (show i < 5 by omega)) ?_
                  refine P_as c1 ?_
                  refine P_istore5 (pc' := 82) dX8_lay_80 rfl (by decide) rfl ?_
                  refine P_aload4 (pc' := 84) dX8_lay_82 rfl ?_
                  refine P_iload2 (pc' := 85) dX8_lay_84 rfl ?_
                  refine P_puti (pc' := 88) dX8_lay_85 rfl fl_X8_274 rfl (sl_l hsh (show i < 5 by omega)) (sl_t hsh (show i < 5 by omega)) ?_
                  refine P_iload2 (pc' := 89) dX8_lay_88 rfl ?_
                  refine P_iconst (pc' := 90) dX8_lay_89 rfl (v := 1) rfl ?_
                  refine P_icmp_ne (tgt := 124) (pc' := 93) dX8_lay_90 rfl rfl (fun h90 => ?_) (fun h90 => ?_)
                  · exact absurd rfl h90
                  · refine P_aload4 (pc' := 95) dX8_lay_93 rfl ?_
                    refine P_aload0 (pc' := 96) dX8_lay_95 rfl ?_
                    refine P_getr (pc' := 99) dX8_lay_96 rfl fl_X8_10 rfl (l_0 hsh) (t_0 hsh) (q_0_0 hsh) ?_
                    refine P_getr (pc' := 102) dX8_lay_99 rfl fl_X8_93 rfl (l_1 hsh) (t_1 hsh) (q_1_1 hsh) ?_
                    refine P_iload3 (pc' := 103) dX8_lay_102 rfl ?_
                    refine P_iald (pc' := 104) dX8_lay_103 rfl (l_3 hsh) (t_3 hsh) (j := j) rfl (by omega) (by decide) ?_
                    refine P_as (y := aR T (16 + 5 * j)) (by rw [u2_a (by omega)]; exact r0) ?_
                    refine P_puti (pc' := 107) dX8_lay_104 rfl fl_X8_277 rfl (sl_l hsh (show i < 5 by omega)) (sl_t hsh (show i < 5 by omega)) ?_
                    refine P_aload4 (pc' := 109) dX8_lay_107 rfl ?_
                    refine P_aload0 (pc' := 110) dX8_lay_109 rfl ?_
                    refine P_getr (pc' := 113) dX8_lay_110 rfl fl_X8_10 rfl (l_0 hsh) (t_0 hsh) (q_0_0 hsh) ?_
                    refine P_getr (pc' := 116) dX8_lay_113 rfl fl_X8_99 rfl (l_1 hsh) (t_1 hsh) (q_1_3 hsh) ?_
                    refine P_iload3 (pc' := 117) dX8_lay_116 rfl ?_
                    refine P_iald (pc' := 118) dX8_lay_117 rfl (l_5 hsh) (t_5 hsh) (j := j) rfl (by omega) (by decide) ?_
                    refine P_as (y := aR T (18 + 5 * j)) (by rw [u2_a (by omega), u2_a (by omega)]; exact r2) ?_
                    refine P_puti (pc' := 121) dX8_lay_118 rfl fl_X8_280 rfl (sl_l hsh (show i < 5 by omega)) (sl_t hsh (show i < 5 by omega)) ?_
                    refine P_goto (tgt := 157) dX8_lay_121 rfl ?_
                    refine P_iload5 (pc' := 159) dX8_lay_157 rfl ?_
                    refine P_iret dX8_lay_159 ?_
                    refine CO.m eo (hK.sl1 (i := i) (by omega) (fun x h1 h2 h3 => by rw [u2_row h1, u2_row h1, u2_row h1]) (fun x hx => lyU_o (by omega) (by omega) (by omega)) (fun j hj => lyU_n hj) (fun j _ => by rw [lyU_o (by decide) (by decide) (by decide)]) ?_ ?_) (fun x h1 h2 => by rw [u2_row (by omega), u2_row (by omega), u2_row (by omega)])
                    · obtain ⟨e1, e2, e3⟩ := @lyU_1 T i 1 (aR T (16 + 5 * j)) (kWorth (aR T (16 + 5 * j)) (aR T (18 + 5 * j)))
                      rw [e1, e2]
                      exact ⟨Or.inr (Or.inl rfl), fun z => absurd z (by decide), fun _ => k1⟩
                    · obtain ⟨e1, e2, e3⟩ := @lyU_1 T i 1 (aR T (16 + 5 * j)) (kWorth (aR T (16 + 5 * j)) (aR T (18 + 5 * j)))
                      rw [e1, e2, e3]
                      refine ⟨by rw [u2_k (by decide), u2_k (by decide), u2_s], fun _ => ⟨by rw [u2_k (by decide), u2_s], ?_⟩, fun z => absurd z (by decide), fun z => absurd z (by decide)⟩
                      rw [u2_s, u2_k (by decide), u2_s]
                · exact absurd h49 (by decide)
              · exact absurd h34 (by decide)
        · exact absurd h13 hy
  rw [if_neg y1] at eo
  by_cases y2 : y = 2
  · subst y2
    rw [if_pos rfl] at eo
    by_cases hk : wi k 0 3 = 0
    · rw [if_pos hk] at eo
      refine P_iload1 (pc' := 1) dX8_lay_0 rfl ?_
      refine P_callS1 (pc' := 4) dX8_lay_1 rfl lk_X8_271 (c_X8_isSlot (d := 1) _ (by omega)) (by omega) (Nat.le_of_ble_eq_true rfl) (fun r S' I' hq => ?_)
      obtain ⟨rfl, rfl, rfl⟩ := hq
      refine P_if_eq (tgt := 16) (pc' := 7) dX8_lay_4 rfl rfl (fun h4 => ?_) (fun h4 => ?_)
      · exact absurd h4 hb
      · refine P_iload2 (pc' := 8) dX8_lay_7 rfl ?_
        refine P_iconst (pc' := 9) dX8_lay_8 rfl (v := 0) rfl ?_
        refine P_iconst (pc' := 10) dX8_lay_9 rfl (v := 3) rfl ?_
        refine P_callS3 (pc' := 13) dX8_lay_10 rfl lk_X8_77 (c_X8_wi (d := 0) 2 0 3) (by omega) (Nat.le_of_ble_eq_true rfl) (fun r S' I' hq => ?_)
        obtain ⟨rfl, rfl, rfl⟩ := hq
        refine P_if_ne (tgt := 19) (pc' := 16) dX8_lay_13 rfl rfl (fun h13 => ?_) (fun h13 => ?_)
        · refine P_iload2 (pc' := 20) dX8_lay_19 rfl ?_
          refine P_iconst (pc' := 21) dX8_lay_20 rfl (v := 1) rfl ?_
          refine P_icmp_ne (tgt := 32) (pc' := 24) dX8_lay_21 rfl rfl (fun h21 => ?_) (fun h21 => ?_)
          · refine P_iload2 (pc' := 33) dX8_lay_32 rfl ?_
            refine P_iconst (pc' := 34) dX8_lay_33 rfl (v := 2) rfl ?_
            refine P_icmp_ne (tgt := 47) (pc' := 37) dX8_lay_34 rfl rfl (fun h34 => ?_) (fun h34 => ?_)
            · exact absurd rfl h34
            · refine P_iload3 (pc' := 38) dX8_lay_37 rfl ?_
              refine P_callS1 (pc' := 41) dX8_lay_38 rfl lk_X8_203 (c_X8_isSheet (d := 1) k (by omega)) (by omega) (Nat.le_of_ble_eq_true rfl) (fun r S' I' hq => ?_)
              obtain ⟨rfl, rfl, rfl⟩ := hq
              refine P_if_ne (tgt := 47) (pc' := 44) dX8_lay_41 rfl rfl (fun h41 => ?_) (fun h41 => ?_)
              · exact absurd hk h41
              · refine P_ldc (pc' := 46) dX8_lay_44 rfl co_X8_81 ?_
                refine P_iret dX8_lay_46 ?_
                exact CO.n eo hK
          · exact absurd h21 (by decide)
        · exact absurd h13 hy
    · rw [if_neg hk] at eo
      obtain ⟨j, hj, rfl⟩ := wi_b (m := 3) (by decide) hk
      rw [nI_clamp (by omega)] at eo
      obtain ⟨s1, ⟨m, hm, s2⟩, s3⟩ := hK.1.2.2.2.2.1 j (by omega)
      obtain ⟨b1, b2, b3⟩ := hK.2.2.2.2.2.2.1 j (by omega)
      refine P_iload1 (pc' := 1) dX8_lay_0 rfl ?_
      refine P_callS1 (pc' := 4) dX8_lay_1 rfl lk_X8_271 (c_X8_isSlot (d := 1) _ (by omega)) (by omega) (Nat.le_of_ble_eq_true rfl) (fun r S' I' hq => ?_)
      obtain ⟨rfl, rfl, rfl⟩ := hq
      refine P_if_eq (tgt := 16) (pc' := 7) dX8_lay_4 rfl rfl (fun h4 => ?_) (fun h4 => ?_)
      · exact absurd h4 hb
      · refine P_iload2 (pc' := 8) dX8_lay_7 rfl ?_
        refine P_iconst (pc' := 9) dX8_lay_8 rfl (v := 0) rfl ?_
        refine P_iconst (pc' := 10) dX8_lay_9 rfl (v := 3) rfl ?_
        refine P_callS3 (pc' := 13) dX8_lay_10 rfl lk_X8_77 (c_X8_wi (d := 0) 2 0 3) (by omega) (Nat.le_of_ble_eq_true rfl) (fun r S' I' hq => ?_)
        obtain ⟨rfl, rfl, rfl⟩ := hq
        refine P_if_ne (tgt := 19) (pc' := 16) dX8_lay_13 rfl rfl (fun h13 => ?_) (fun h13 => ?_)
        · refine P_iload2 (pc' := 20) dX8_lay_19 rfl ?_
          refine P_iconst (pc' := 21) dX8_lay_20 rfl (v := 1) rfl ?_
          refine P_icmp_ne (tgt := 32) (pc' := 24) dX8_lay_21 rfl rfl (fun h21 => ?_) (fun h21 => ?_)
          · refine P_iload2 (pc' := 33) dX8_lay_32 rfl ?_
            refine P_iconst (pc' := 34) dX8_lay_33 rfl (v := 2) rfl ?_
            refine P_icmp_ne (tgt := 47) (pc' := 37) dX8_lay_34 rfl rfl (fun h34 => ?_) (fun h34 => ?_)
            · exact absurd rfl h34
            · refine P_iload3 (pc' := 38) dX8_lay_37 rfl ?_
              refine P_callS1 (pc' := 41) dX8_lay_38 rfl lk_X8_203 (c_X8_isSheet (d := 1) _ (by omega)) (by omega) (Nat.le_of_ble_eq_true rfl) (fun r S' I' hq => ?_)
              obtain ⟨rfl, rfl, rfl⟩ := hq
              refine P_if_ne (tgt := 47) (pc' := 44) dX8_lay_41 rfl rfl (fun h41 => ?_) (fun h41 => ?_)
              · refine P_iload2 (pc' := 48) dX8_lay_47 rfl ?_
                refine P_iconst (pc' := 49) dX8_lay_48 rfl (v := 2) rfl ?_
                refine P_icmp_ne (tgt := 67) (pc' := 52) dX8_lay_49 rfl rfl (fun h49 => ?_) (fun h49 => ?_)
                · exact absurd rfl h49
                · refine P_aload0 (pc' := 53) dX8_lay_52 rfl ?_
                  refine P_getr (pc' := 56) dX8_lay_53 rfl fl_X8_53 rfl (l_0 hsh) (t_0 hsh) (q_0_8 hsh) ?_
                  refine P_iload3 (pc' := 57) dX8_lay_56 rfl ?_
                  refine P_aald13 (pc' := 58) dX8_lay_57 rfl (l_29 hsh) (t_29 hsh) (j := j) rfl (by omega) (by decide) (sh_q hsh (by omega)) ?_
                  refine P_callV0 (pc' := 61) dX8_lay_58 rfl lk_X8_206 (sh_o hsh (show j < 4 by omega)).1 (sh_o hsh (show j < 4 by omega)).2.2.1 (c_X3_isMissing (d := 2) (sh_o hsh (by omega))) (by omega) (Nat.le_of_ble_eq_true rfl) (fun r S' I' hq => ?_)
                  obtain ⟨rfl, rfl, rfl⟩ := hq
                  rw [b1]
                  refine P_if_eq (tgt := 67) (pc' := 64) dX8_lay_61 rfl rfl (fun h61 => ?_) (fun h61 => ?_)
                  · refine P_aload0 (pc' := 68) dX8_lay_67 rfl ?_
                    refine P_getr (pc' := 71) dX8_lay_68 rfl fl_X8_59 rfl (l_0 hsh) (t_0 hsh) (q_0_9 hsh) ?_
                    refine P_iload1 (pc' := 72) dX8_lay_71 rfl ?_
                    refine P_aald14 (pc' := 73) dX8_lay_72 rfl (l_30 hsh) (t_30 hsh) (j := i) rfl (by omega) (by decide) (sl_q hsh (by omega)) ?_
                    refine P_astore4 (pc' := 75) dX8_lay_73 rfl (by decide) rfl ?_
                    refine P_aload4 (pc' := 77) dX8_lay_75 rfl ?_
                    refine P_geti (pc' := 80) dX8_lay_77 rfl fl_X8_274 rfl (sl_l hsh (show i < 5 by omega)) (sl_t hsh (show i < 5 by omega)) ?_
                    refine P_as c1 ?_
                    refine P_istore5 (pc' := 82) dX8_lay_80 rfl (by decide) rfl ?_
                    refine P_aload4 (pc' := 84) dX8_lay_82 rfl ?_
                    refine P_iload2 (pc' := 85) dX8_lay_84 rfl ?_
                    refine P_puti (pc' := 88) dX8_lay_85 rfl fl_X8_274 rfl (sl_l hsh (show i < 5 by omega)) (sl_t hsh (show i < 5 by omega)) ?_
                    refine P_iload2 (pc' := 89) dX8_lay_88 rfl ?_
                    refine P_iconst (pc' := 90) dX8_lay_89 rfl (v := 1) rfl ?_
                    refine P_icmp_ne (tgt := 124) (pc' := 93) dX8_lay_90 rfl rfl (fun h90 => ?_) (fun h90 => ?_)
                    · refine P_iload2 (pc' := 125) dX8_lay_124 rfl ?_
                      refine P_iconst (pc' := 126) dX8_lay_125 rfl (v := 2) rfl ?_
                      refine P_icmp_ne (tgt := 146) (pc' := 129) dX8_lay_126 rfl rfl (fun h126 => ?_) (fun h126 => ?_)
                      · exact absurd rfl h126
                      · refine P_aload4 (pc' := 131) dX8_lay_129 rfl ?_
                        refine P_getr (pc' := 134) dX8_lay_131 rfl fl_X8_283 rfl (sl_l hsh (show i < 5 by omega)) (sl_t hsh (show i < 5 by omega)) (sl_p hsh (show i < 5 by omega)) ?_
                        refine P_aload0 (pc' := 135) dX8_lay_134 rfl ?_
                        refine P_getr (pc' := 138) dX8_lay_135 rfl fl_X8_53 rfl (l_0 hsh) (t_0 hsh) (q_0_8 hsh) ?_
                        refine P_iload3 (pc' := 139) dX8_lay_138 rfl ?_
                        refine P_aald13 (pc' := 140) dX8_lay_139 rfl (l_29 hsh) (t_29 hsh) (j := j) rfl (by omega) (by decide) (sh_q hsh (by omega)) ?_
                        refine P_callV1 (pc' := 143) dX8_lay_140 rfl lk_X8_287 (sl_o hsh (show i < 5 by omega)).1 (sl_o hsh (show i < 5 by omega)).2.2.1 (c_X3_become (d := 3) (sl_o hsh (by omega)) (sh_o hsh (by omega)) (by omega) (by omega) (by omega) (by omega)) (by omega) (Nat.le_of_ble_eq_true rfl) (fun r S' I' hq => ?_)
                        obtain ⟨rfl, rfl, rfl⟩ := hq
                        refine P_goto (tgt := 157) dX8_lay_143 rfl ?_
                        refine P_iload5 (pc' := 159) dX8_lay_157 rfl ?_
                        refine P_iret dX8_lay_159 ?_
                        have q : ¬ T 68 j = -1 := fun z => by rw [if_pos z] at h61; exact absurd h61 (by decide)
                        refine CO.m (eo.trans (if_neg q)) (hK.sl1 (i := i) (by omega) (fun x h1 h2 h3 => by rw [sR_n (by omega), u2_row h2, u2_row h2, u2_row h1]) (fun x hx => by rw [sR_n (by omega)]; exact lyU_o (by omega) (by omega) (by omega)) (fun l hl => ?_) (fun l hl => ?_) ?_ ?_) (fun x h1 h2 => by rw [sR_n (by omega), u2_row (by omega), u2_row (by omega), u2_row (by omega)])
                        · rw [sR_n (by decide), sR_n (by decide), sR_n (by decide)]; exact lyU_n hl
                        · rw [sR_s]; exact if_neg (by omega)
                        · obtain ⟨e1, e2, e3⟩ := @lyU_1 T i 2 (T 69 j) 0
                          rw [sR_n (by decide), sR_n (by decide), e1, e2]
                          exact ⟨Or.inr (Or.inr (Or.inl rfl)), fun _ => ⟨m, hm, s2⟩, fun z => absurd z (by decide)⟩
                        · obtain ⟨e1, e2, e3⟩ := @lyU_1 T i 2 (T 69 j) 0
                          rw [sR_n (a := 74) (x := 71) (by decide), sR_n (a := 74) (x := 72) (by decide), e1, e2]
                          refine ⟨by rw [sR_n (by omega), u2_a (by omega), u2_a (by omega), u2_s], fun z => absurd z (by decide), fun _ => ⟨?_, fun l hl => ?_⟩, fun z => absurd z (by decide)⟩
                          · rw [sR_n (by omega), u2_s, u2_a (by omega)]; exact b2
                          · rw [show 42 + 3 * i = 41 + 3 * i + 1 by omega, sR_s, sR_s, if_pos hl, u2_a (by omega), show 32 + 2 * j + 1 = 33 + 2 * j by omega, b3 l hl]
                            unfold lyF
                            rw [if_pos (by omega), show 24 * i + l - 24 * i = l by omega]
                    · exact absurd h90 (by decide)
                  · refine P_ldc (pc' := 66) dX8_lay_64 rfl co_X8_209 ?_
                    refine P_iret dX8_lay_66 ?_
                    have q : T 68 j = -1 := Classical.byContradiction (fun z => h61 (if_neg z))
                    exact CO.n (eo.trans (if_pos q)) hK
              · exact absurd h41 hk
          · exact absurd h21 (by decide)
        · exact absurd h13 hy
  rw [if_neg y2] at eo
  have y03 : y = 0 ∨ y = 3 := by
    obtain ⟨j, hj, rfl⟩ := wi_b (m := 3) (by decide) hy
    have key : j = 0 ∨ j = 1 ∨ j = 2 ∨ j = 3 := by omega
    rcases key with rfl | rfl | rfl | rfl
    · exact Or.inl rfl
    · exact absurd rfl y1
    · exact absurd rfl y2
    · exact Or.inr rfl
  obtain ⟨e1, e2, e3⟩ := @lyU_1 T i y k 0
  rcases y03 with rfl | rfl
  · skip
    refine P_iload1 (pc' := 1) dX8_lay_0 rfl ?_
    refine P_callS1 (pc' := 4) dX8_lay_1 rfl lk_X8_271 (c_X8_isSlot (d := 1) _ (by omega)) (by omega) (Nat.le_of_ble_eq_true rfl) (fun r S' I' hq => ?_)
    obtain ⟨rfl, rfl, rfl⟩ := hq
    refine P_if_eq (tgt := 16) (pc' := 7) dX8_lay_4 rfl rfl (fun h4 => ?_) (fun h4 => ?_)
    · exact absurd h4 hb
    · refine P_iload2 (pc' := 8) dX8_lay_7 rfl ?_
      refine P_iconst (pc' := 9) dX8_lay_8 rfl (v := 0) rfl ?_
      refine P_iconst (pc' := 10) dX8_lay_9 rfl (v := 3) rfl ?_
      refine P_callS3 (pc' := 13) dX8_lay_10 rfl lk_X8_77 (c_X8_wi (d := 0) 0 0 3) (by omega) (Nat.le_of_ble_eq_true rfl) (fun r S' I' hq => ?_)
      obtain ⟨rfl, rfl, rfl⟩ := hq
      refine P_if_ne (tgt := 19) (pc' := 16) dX8_lay_13 rfl rfl (fun h13 => ?_) (fun h13 => ?_)
      · refine P_iload2 (pc' := 20) dX8_lay_19 rfl ?_
        refine P_iconst (pc' := 21) dX8_lay_20 rfl (v := 1) rfl ?_
        refine P_icmp_ne (tgt := 32) (pc' := 24) dX8_lay_21 rfl rfl (fun h21 => ?_) (fun h21 => ?_)
        · refine P_iload2 (pc' := 33) dX8_lay_32 rfl ?_
          refine P_iconst (pc' := 34) dX8_lay_33 rfl (v := 2) rfl ?_
          refine P_icmp_ne (tgt := 47) (pc' := 37) dX8_lay_34 rfl rfl (fun h34 => ?_) (fun h34 => ?_)
          · refine P_iload2 (pc' := 48) dX8_lay_47 rfl ?_
            refine P_iconst (pc' := 49) dX8_lay_48 rfl (v := 2) rfl ?_
            refine P_icmp_ne (tgt := 67) (pc' := 52) dX8_lay_49 rfl rfl (fun h49 => ?_) (fun h49 => ?_)
            · refine P_aload0 (pc' := 68) dX8_lay_67 rfl ?_
              refine P_getr (pc' := 71) dX8_lay_68 rfl fl_X8_59 rfl (l_0 hsh) (t_0 hsh) (q_0_9 hsh) ?_
              refine P_iload1 (pc' := 72) dX8_lay_71 rfl ?_
              refine P_aald14 (pc' := 73) dX8_lay_72 rfl (l_30 hsh) (t_30 hsh) (j := i) rfl (by omega) (by decide) (sl_q hsh (by omega)) ?_
              refine P_astore4 (pc' := 75) dX8_lay_73 rfl (by decide) rfl ?_
              refine P_aload4 (pc' := 77) dX8_lay_75 rfl ?_
              refine P_geti (pc' := 80) dX8_lay_77 rfl fl_X8_274 rfl (sl_l hsh (show i < 5 by omega)) (sl_t hsh (show i < 5 by omega)) ?_
              refine P_as c1 ?_
              refine P_istore5 (pc' := 82) dX8_lay_80 rfl (by decide) rfl ?_
              refine P_aload4 (pc' := 84) dX8_lay_82 rfl ?_
              refine P_iload2 (pc' := 85) dX8_lay_84 rfl ?_
              refine P_puti (pc' := 88) dX8_lay_85 rfl fl_X8_274 rfl (sl_l hsh (show i < 5 by omega)) (sl_t hsh (show i < 5 by omega)) ?_
              refine P_iload2 (pc' := 89) dX8_lay_88 rfl ?_
              refine P_iconst (pc' := 90) dX8_lay_89 rfl (v := 1) rfl ?_
              refine P_icmp_ne (tgt := 124) (pc' := 93) dX8_lay_90 rfl rfl (fun h90 => ?_) (fun h90 => ?_)
              · refine P_iload2 (pc' := 125) dX8_lay_124 rfl ?_
                refine P_iconst (pc' := 126) dX8_lay_125 rfl (v := 2) rfl ?_
                refine P_icmp_ne (tgt := 146) (pc' := 129) dX8_lay_126 rfl rfl (fun h126 => ?_) (fun h126 => ?_)
                · refine P_iload2 (pc' := 147) dX8_lay_146 rfl ?_
                  refine P_iconst (pc' := 148) dX8_lay_147 rfl (v := 3) rfl ?_
                  refine P_icmp_ne (tgt := 157) (pc' := 151) dX8_lay_148 rfl rfl (fun h148 => ?_) (fun h148 => ?_)
                  · refine P_iload5 (pc' := 159) dX8_lay_157 rfl ?_
                    refine P_iret dX8_lay_159 ?_
                    refine CO.m eo (hK.sl1 (i := i) (by omega) (fun x h1 h2 h3 => by rw [u2_row h1]) (fun x hx => lyU_o (by omega) (by omega) (by omega)) (fun j hj => lyU_n hj) (fun j _ => by rw [lyU_o (by decide) (by decide) (by decide)]) ?_ ?_) (fun x h1 h2 => by rw [u2_row (by omega)])
                    · rw [e1]
                      exact ⟨Or.inl rfl, fun z => absurd z (by decide), fun z => absurd z (by decide)⟩
                    · rw [e1]
                      exact ⟨u2_s _ _ _ _, fun z => absurd z (by decide), fun z => absurd z (by decide), fun z => absurd z (by decide)⟩
                  · exact absurd h148 (by decide)
                · exact absurd h126 (by decide)
              · exact absurd h90 (by decide)
            · exact absurd h49 (by decide)
          · exact absurd h34 (by decide)
        · exact absurd h21 (by decide)
      · exact absurd h13 hy
  · skip
    refine P_iload1 (pc' := 1) dX8_lay_0 rfl ?_
    refine P_callS1 (pc' := 4) dX8_lay_1 rfl lk_X8_271 (c_X8_isSlot (d := 1) _ (by omega)) (by omega) (Nat.le_of_ble_eq_true rfl) (fun r S' I' hq => ?_)
    obtain ⟨rfl, rfl, rfl⟩ := hq
    refine P_if_eq (tgt := 16) (pc' := 7) dX8_lay_4 rfl rfl (fun h4 => ?_) (fun h4 => ?_)
    · exact absurd h4 hb
    · refine P_iload2 (pc' := 8) dX8_lay_7 rfl ?_
      refine P_iconst (pc' := 9) dX8_lay_8 rfl (v := 0) rfl ?_
      refine P_iconst (pc' := 10) dX8_lay_9 rfl (v := 3) rfl ?_
      refine P_callS3 (pc' := 13) dX8_lay_10 rfl lk_X8_77 (c_X8_wi (d := 0) 3 0 3) (by omega) (Nat.le_of_ble_eq_true rfl) (fun r S' I' hq => ?_)
      obtain ⟨rfl, rfl, rfl⟩ := hq
      refine P_if_ne (tgt := 19) (pc' := 16) dX8_lay_13 rfl rfl (fun h13 => ?_) (fun h13 => ?_)
      · refine P_iload2 (pc' := 20) dX8_lay_19 rfl ?_
        refine P_iconst (pc' := 21) dX8_lay_20 rfl (v := 1) rfl ?_
        refine P_icmp_ne (tgt := 32) (pc' := 24) dX8_lay_21 rfl rfl (fun h21 => ?_) (fun h21 => ?_)
        · refine P_iload2 (pc' := 33) dX8_lay_32 rfl ?_
          refine P_iconst (pc' := 34) dX8_lay_33 rfl (v := 2) rfl ?_
          refine P_icmp_ne (tgt := 47) (pc' := 37) dX8_lay_34 rfl rfl (fun h34 => ?_) (fun h34 => ?_)
          · refine P_iload2 (pc' := 48) dX8_lay_47 rfl ?_
            refine P_iconst (pc' := 49) dX8_lay_48 rfl (v := 2) rfl ?_
            refine P_icmp_ne (tgt := 67) (pc' := 52) dX8_lay_49 rfl rfl (fun h49 => ?_) (fun h49 => ?_)
            · refine P_aload0 (pc' := 68) dX8_lay_67 rfl ?_
              refine P_getr (pc' := 71) dX8_lay_68 rfl fl_X8_59 rfl (l_0 hsh) (t_0 hsh) (q_0_9 hsh) ?_
              refine P_iload1 (pc' := 72) dX8_lay_71 rfl ?_
              refine P_aald14 (pc' := 73) dX8_lay_72 rfl (l_30 hsh) (t_30 hsh) (j := i) rfl (by omega) (by decide) (sl_q hsh (by omega)) ?_
              refine P_astore4 (pc' := 75) dX8_lay_73 rfl (by decide) rfl ?_
              refine P_aload4 (pc' := 77) dX8_lay_75 rfl ?_
              refine P_geti (pc' := 80) dX8_lay_77 rfl fl_X8_274 rfl (sl_l hsh (show i < 5 by omega)) (sl_t hsh (show i < 5 by omega)) ?_
              refine P_as c1 ?_
              refine P_istore5 (pc' := 82) dX8_lay_80 rfl (by decide) rfl ?_
              refine P_aload4 (pc' := 84) dX8_lay_82 rfl ?_
              refine P_iload2 (pc' := 85) dX8_lay_84 rfl ?_
              refine P_puti (pc' := 88) dX8_lay_85 rfl fl_X8_274 rfl (sl_l hsh (show i < 5 by omega)) (sl_t hsh (show i < 5 by omega)) ?_
              refine P_iload2 (pc' := 89) dX8_lay_88 rfl ?_
              refine P_iconst (pc' := 90) dX8_lay_89 rfl (v := 1) rfl ?_
              refine P_icmp_ne (tgt := 124) (pc' := 93) dX8_lay_90 rfl rfl (fun h90 => ?_) (fun h90 => ?_)
              · refine P_iload2 (pc' := 125) dX8_lay_124 rfl ?_
                refine P_iconst (pc' := 126) dX8_lay_125 rfl (v := 2) rfl ?_
                refine P_icmp_ne (tgt := 146) (pc' := 129) dX8_lay_126 rfl rfl (fun h126 => ?_) (fun h126 => ?_)
                · refine P_iload2 (pc' := 147) dX8_lay_146 rfl ?_
                  refine P_iconst (pc' := 148) dX8_lay_147 rfl (v := 3) rfl ?_
                  refine P_icmp_ne (tgt := 157) (pc' := 151) dX8_lay_148 rfl rfl (fun h148 => ?_) (fun h148 => ?_)
                  · exact absurd rfl h148
                  · refine P_aload4 (pc' := 153) dX8_lay_151 rfl ?_
                    refine P_iload3 (pc' := 154) dX8_lay_153 rfl ?_
                    refine P_puti (pc' := 157) dX8_lay_154 rfl fl_X8_291 rfl (sl_l hsh (show i < 5 by omega)) (sl_t hsh (show i < 5 by omega)) ?_
                    refine P_iload5 (pc' := 159) dX8_lay_157 rfl ?_
                    refine P_iret dX8_lay_159 ?_
                    refine CO.m eo (hK.sl1 (i := i) (by omega) (fun x h1 h2 h3 => by rw [u2_row h1, u2_row h1]) (fun x hx => lyU_o (by omega) (by omega) (by omega)) (fun j hj => lyU_n hj) (fun j _ => by rw [lyU_o (by decide) (by decide) (by decide)]) ?_ ?_) (fun x h1 h2 => by rw [u2_row (by omega), u2_row (by omega)])
                    · rw [e1]
                      exact ⟨Or.inr (Or.inr (Or.inr rfl)), fun z => absurd z (by decide), fun z => absurd z (by decide)⟩
                    · rw [e1, e2]
                      exact ⟨by rw [u2_k (by decide), u2_s], fun z => absurd z (by decide), fun z => absurd z (by decide), fun _ => u2_s _ _ _ _⟩
                · exact absurd h126 (by decide)
              · exact absurd h90 (by decide)
            · exact absurd h49 (by decide)
          · exact absurd h34 (by decide)
        · exact absurd h21 (by decide)
      · exact absurd h13 hy
/-! beggars by lot -/
def deS (A : Nat → Int32) : Nat → Int32 := aAdd (upd A 0 (zn (zn (zn (A 0))))) (A 1).toNatClampNeg (nI (dz (zn (A 0)) % 6)) (nI (dz (zn (zn (A 0))) % 9)) (nI (dz (zn (zn (zn (A 0)))) % 21))
theorem isK_6 (a : Nat) : isK (nI (a % 6)) := by
  have h : a % 6 < 6 := Nat.mod_lt _ (by decide)
  have key : a % 6 = 0 ∨ a % 6 = 1 ∨ a % 6 = 2 ∨ a % 6 = 3 ∨ a % 6 = 4 ∨ a % 6 = 5 := by omega
  unfold isK
  rcases key with z | z | z | z | z | z <;> rw [z] <;> decide
theorem deS_n {A : Nat → Int32} {n : Nat} (h : A 1 = nI n) (hn : n ≤ 8) : deS A = aAdd (upd A 0 (zn (zn (zn (A 0))))) n (nI (dz (zn (A 0)) % 6)) (nI (dz (zn (zn (A 0))) % 9)) (nI (dz (zn (zn (zn (A 0)))) % 21)) := by
  unfold deS
  rw [h, nI_clamp (by omega)]
theorem deS_z {A : Nat → Int32} (h : Z61 A) {n : Nat} (h1 : A 1 = nI n) (hn : n ≤ 8) : Z61 (deS A) := fun j hj => by
  rw [deS_n h1 hn, aAdd_ne (by omega) (by omega), upd_n (by omega)]; exact h j hj
theorem deS_wa {A : Nat → Int32} {n : Nat} (h : WA A n) (hn : n ≤ 8) : WA (deS A) (n + 1) := by
  rw [deS_n h.1 hn]
  exact aAdd_wa (h.z _) hn (isK_6 _) (by omega) (by omega)
theorem deS_kn {A : Nat → Int32} {n : Nat} (hk : KN A) (h : WA A n) (hn : n < 8) : KN (deS A) := by
  rw [deS_n h.1 (by omega)]
  exact (hk.up (fun n _ hn => hn.z _) (by omega) (fun b => by omega) (fun c _ z => by omega)).add (h.z _) hn (isK_6 _) (by omega) (by omega)
def oDea (A : Nat → Int32) (v : Int32) : Int32 × (Nat → Int32) := if wi v 1 8 = 0 then (-1000000001, A) else (nI (min v.toNatClampNeg (8 - (A 1).toNatClampNeg)), it deS (min v.toNatClampNeg (8 - (A 1).toNatClampNeg)) A)
theorem lp_X8_deal {G : GX} {S : Shp} {I0 T : Mem} {d tn bn m : Nat} {tx : Nat → Tx} {v : Int32} {R : Nat → Int32} (hm : m ≤ 8) (hd : 12 ≤ d) : ∀ (k i n : Nat) (A : Nat → Int32) (I : Mem) (x4 x5 x6 : Option Value), i + k = m → n + k ≤ 8 → Z61 A → WA A n → K S I (nw T A) tn bn tx → (∀ x, 55 ≤ x → x < 77 → I x = I0 x) → it deS k A = R → PW G RX8 "deal" cX8_deal 7 (some .int) d 0 0 (CO I0 (nw T R) tn bn tx (nI m)) 30 [some (.ref 0), some (.int v), some (.int (nI m)), some (.int (nI i)), x4, x5, x6] [] S I := by
  intro k
  induction k with
  | zero =>
    intro i n A I x4 x5 x6 hi hn hz hw hK hf hR
    have hR : A = R := hR
    have hsh := hK.2.1
    rw [← hR]
    refine P_iload3 (pc' := 31) dX8_deal_30 rfl ?_
    refine P_iload2 (pc' := 32) dX8_deal_31 rfl ?_
    refine P_icmp_ge (tgt := 91) (pc' := 35) dX8_deal_32 rfl rfl (fun h32 => ?_) (fun h32 => ?_)
    · refine P_iload2 (pc' := 92) dX8_deal_91 rfl ?_
      refine P_iret dX8_deal_92 ?_
      exact ⟨rfl, hK, hf⟩
    · exact absurd (nI_le (by omega) (by omega)) h32
  | succ k ih =>
    intro i n A I x4 x5 x6 hi hn hz hw hK hf hR
    have hsh := hK.2.1
    have eA : aR (nw T A) = A := nw_R hz
    have e0 : I 1 12 = A 0 := by rw [hK.sc.1, eA]
    have e1 : I 1 6 = nI n := by rw [hK.sc.2.1, eA]; exact hw.1
    rw [it_s] at hR
    refine P_iload3 (pc' := 31) dX8_deal_30 rfl ?_
    refine P_iload2 (pc' := 32) dX8_deal_31 rfl ?_
    refine P_icmp_ge (tgt := 91) (pc' := 35) dX8_deal_32 rfl rfl (fun h32 => ?_) (fun h32 => ?_)
    · exact absurd h32 (nI_ge (by omega) (by omega))
    · refine P_aload0 (pc' := 36) dX8_deal_35 rfl ?_
      refine P_getr (pc' := 39) dX8_deal_36 rfl fl_X8_10 rfl (l_0 hsh) (t_0 hsh) (q_0_0 hsh) ?_
      refine P_callV0 (pc' := 42) dX8_deal_39 rfl lk_X8_156 (l_1 hsh) (t_1 hsh) (c_X5_draw (d := 1) hsh (Or.inl rfl)) (by omega) (Nat.le_of_ble_eq_true rfl) (fun r S' I' hq => ?_)
      obtain ⟨rfl, rfl, rfl⟩ := hq
      refine P_bipush (pc' := 44) dX8_deal_42 rfl (v := 6) rfl ?_
      refine P_irem (pc' := 45) dX8_deal_44 rfl (by decide) ?_
      refine P_as (y := nI (dz (zn (A 0)) % 6)) (by rw [e0]; exact rm_n (k := 6) _ (by decide) (by decide)) ?_
      refine P_istore4 (pc' := 47) dX8_deal_45 rfl (by decide) rfl ?_
      refine P_aload0 (pc' := 48) dX8_deal_47 rfl ?_
      refine P_getr (pc' := 51) dX8_deal_48 rfl fl_X8_10 rfl (l_0 hsh) (t_0 hsh) (q_0_0 hsh) ?_
      refine P_callV0 (pc' := 54) dX8_deal_51 rfl lk_X8_156 (l_1 hsh) (t_1 hsh) (c_draw2 (d := 1) hsh (Or.inl rfl)) (by omega) (Nat.le_of_ble_eq_true rfl) (fun r S' I' hq => ?_)
      obtain ⟨rfl, rfl, rfl⟩ := hq
      refine P_bipush (pc' := 56) dX8_deal_54 rfl (v := 9) rfl ?_
      refine P_irem (pc' := 57) dX8_deal_56 rfl (by decide) ?_
      refine P_as (y := nI (dz (zn (zn (A 0))) % 9)) (by rw [e0]; exact rm_n (k := 9) _ (by decide) (by decide)) ?_
      refine P_istore5 (pc' := 59) dX8_deal_57 rfl (by decide) rfl ?_
      refine P_aload0 (pc' := 60) dX8_deal_59 rfl ?_
      refine P_getr (pc' := 63) dX8_deal_60 rfl fl_X8_10 rfl (l_0 hsh) (t_0 hsh) (q_0_0 hsh) ?_
      refine P_callV0 (pc' := 66) dX8_deal_63 rfl lk_X8_156 (l_1 hsh) (t_1 hsh) (c_draw2 (d := 1) hsh (Or.inl rfl)) (by omega) (Nat.le_of_ble_eq_true rfl) (fun r S' I' hq => ?_)
      obtain ⟨rfl, rfl, rfl⟩ := hq
      refine P_bipush (pc' := 68) dX8_deal_66 rfl (v := 21) rfl ?_
      refine P_irem (pc' := 69) dX8_deal_68 rfl (by decide) ?_
      refine P_as (y := nI (dz (zn (zn (zn (A 0)))) % 21)) (by rw [e0]; exact rm_n (k := 21) _ (by decide) (by decide)) ?_
      refine P_istore6 (pc' := 71) dX8_deal_69 rfl (by decide) rfl ?_
      refine P_aload0 (pc' := 72) dX8_deal_71 rfl ?_
      refine P_getr (pc' := 75) dX8_deal_72 rfl fl_X8_10 rfl (l_0 hsh) (t_0 hsh) (q_0_0 hsh) ?_
      refine P_iload4 (pc' := 77) dX8_deal_75 rfl ?_
      refine P_iload5 (pc' := 79) dX8_deal_77 rfl ?_
      refine P_iload6 (pc' := 81) dX8_deal_79 rfl ?_
      refine P_callV3 (pc' := 84) dX8_deal_81 rfl lk_X8_86 (l_1 hsh) (t_1 hsh) (c_X5_add (d := 1) (n := n) hsh (Or.inl rfl) (by rw [u2_k (by decide)]; exact e1) (by omega) (by omega)) (by omega) (Nat.le_of_ble_eq_true rfl) (fun r S2 I2 hq => ?_)
      obtain ⟨rfl, rfl, hJ, hF⟩ := hq
      rw [show aC 1 (u2 I 1 12 (zn (zn (zn (I 1 12))))) = upd (aC 1 I) 0 (zn (zn (zn (I 1 12)))) from aC_sc (o := 1) (j := 0) (by decide) _, hK.2.2.1, eA, e0, ← deS_n hw.1 (by omega)] at hJ
      refine P_pop (pc' := 85) dX8_deal_84 rfl rfl ?_
      refine P_iinc3 (pc' := 88) dX8_deal_85 rfl (nI_1 i) (by decide) rfl ?_
      refine P_goto (tgt := 30) dX8_deal_88 rfl ?_
      refine ih (i + 1) (n + 1) (deS A) I2 _ _ _ (by omega) (by omega) (deS_z hz hw.1 (by omega)) (deS_wa hw (by omega)) ?_ (fun x h1 h2 => by rw [hF x (by omega), u2_row (by omega)]; exact hf x h1 h2) hR
      rw [← nw_nw T A]
      refine hK.st (fun x _ hx => by rw [hF x (by omega), u2_row (by omega)]) ?_ hJ (deS_kn (by rw [← eA]; exact hK.1.1) hw (by omega)) (by rw [eA, deS_n hw.1 (by omega), aAdd_ne (by decide) (by omega), upd_n (by decide)])
      obtain ⟨al, ha⟩ := hK.2.2.2.2.2.1
      exact ⟨al, hF.al (Or.inl rfl) (ha.mv (u2_row (by decide)) (fun z hz _ => u2_row (by omega)))⟩
theorem x_deal {G : GX} {S : Shp} {I T : Mem} {d tn bn : Nat} {tx : Nat → Tx} (hK : K S I T tn bn tx) (v : Int32) (hd : 12 ≤ d) : PM G yX8_deal cX8_deal 7 (some .int) d 0 0 [.ref 0, .int v] S I (CO I (nw T (oDea (aR T) v).2) tn bn tx (oDea (aR T) v).1) := by
  obtain ⟨n, hn, hw, hA, hz, ht⟩ := hK.n
  have hsh := hK.2.1
  refine PM.of (ls := [some (.ref 0), some (.int v), none, none, none, none, none]) (by decide) rfl (Nat.le_of_ble_eq_true rfl) rfl ?_
  show PW G RX8 "deal" _ _ _ _ _ _ _ _ _ _ _ _
  by_cases hv : wi v 1 8 = 0
  · have eo : oDea (aR T) v = (-1000000001, aR T) := if_pos hv
    refine P_iload1 (pc' := 1) dX8_deal_0 rfl ?_
    refine P_iconst (pc' := 2) dX8_deal_1 rfl (v := 1) rfl ?_
    refine P_bipush (pc' := 4) dX8_deal_2 rfl (v := 8) rfl ?_
    refine P_callS3 (pc' := 7) dX8_deal_4 rfl lk_X8_77 (c_X8_wi (d := 0) v 1 8) (by omega) (Nat.le_of_ble_eq_true rfl) (fun r S' I' hq => ?_)
    obtain ⟨rfl, rfl, rfl⟩ := hq
    refine P_if_ne (tgt := 13) (pc' := 10) dX8_deal_7 rfl rfl (fun h7 => ?_) (fun h7 => ?_)
    · exact absurd hv h7
    · refine P_ldc (pc' := 12) dX8_deal_10 rfl co_X8_81 ?_
      refine P_iret dX8_deal_12 ?_
      exact CO.of eo hK
  · obtain ⟨j, j1, j8, rfl⟩ := wi_b1 (m := 8) (by decide) hv
    have eo : oDea (aR T) (nI j) = (nI (min j (8 - n)), it deS (min j (8 - n)) (aR T)) := by unfold oDea; rw [if_neg hv, nI_clamp (by omega), hw.1, nI_clamp (by omega)]
    rw [eo]
    refine P_iload1 (pc' := 1) dX8_deal_0 rfl ?_
    refine P_iconst (pc' := 2) dX8_deal_1 rfl (v := 1) rfl ?_
    refine P_bipush (pc' := 4) dX8_deal_2 rfl (v := 8) rfl ?_
    refine P_callS3 (pc' := 7) dX8_deal_4 rfl lk_X8_77 (c_X8_wi (d := 0) _ 1 8) (by omega) (Nat.le_of_ble_eq_true rfl) (fun r S' I' hq => ?_)
    obtain ⟨rfl, rfl, rfl⟩ := hq
    refine P_if_ne (tgt := 13) (pc' := 10) dX8_deal_7 rfl rfl (fun h7 => ?_) (fun h7 => ?_)
    · refine P_iload1 (pc' := 14) dX8_deal_13 rfl ?_
      refine P_bipush (pc' := 16) dX8_deal_14 rfl (v := 8) rfl ?_
      refine P_aload0 (pc' := 17) dX8_deal_16 rfl ?_
      refine P_getr (pc' := 20) dX8_deal_17 rfl fl_X8_10 rfl (l_0 hsh) (t_0 hsh) (q_0_0 hsh) ?_
      refine P_geti (pc' := 23) dX8_deal_20 rfl fl_X8_82 rfl (l_1 hsh) (t_1 hsh) ?_
      refine P_as hz ?_
      refine P_isub (pc' := 24) dX8_deal_23 rfl ?_
      refine P_as (y := nI (8 - n)) (pk_sub (a := 8) (b := n) hn) ?_
      refine P_min (pc' := 27) dX8_deal_24 rfl lk_X8_151 (by omega) (Nat.le_of_ble_eq_true rfl) ?_
      refine P_as (nI_min (a := j) (b := 8 - n) (by omega) (by omega)) ?_
      refine P_istore2 (pc' := 28) dX8_deal_27 rfl (by decide) rfl ?_
      refine P_iconst (pc' := 29) dX8_deal_28 rfl (v := 0) rfl ?_
      refine P_istore3 (pc' := 30) dX8_deal_29 rfl (by decide) rfl ?_
      exact lp_X8_deal (by omega) hd (min j (8 - n)) 0 n (aR T) I _ _ _ (by omega) (by omega) (Z_R T) hw (by rw [nw_id]; exact hK) (fun _ _ _ => rfl) rfl
    · exact absurd h7 hv
/-! bytes come -/
theorem by_and (x : Int32) : x.toInt8.toInt32 &&& 255 = x &&& 255 := by
  have h : ∀ y : Int32, ((y.toBitVec.toNat : Nat) : Int) % 256 = y.toInt % 256 := by
    intro y
    have e : y.toInt = y.toBitVec.toInt := rfl
    rw [e, BitVec.toInt_eq_toNat_cond]
    have := y.toBitVec.isLt
    split <;> omega
  have e1 : (x.toInt8.toInt32).toInt = x.toInt.bmod 256 := by
    have e2 : x.toInt8.toInt32.toInt = x.toInt8.toInt := Int8.toInt_toInt32 _
    rw [e2, Int32.toInt_toInt8]
  have e3 : x.toInt8.toInt32.toBitVec.toNat % 2 ^ 8 = x.toBitVec.toNat % 2 ^ 8 := by
    have a := h x.toInt8.toInt32
    have b := h x
    rw [e1] at a
    have c : (x.toInt.bmod 256) % 256 = x.toInt % 256 := by
      unfold Int.bmod
      dsimp only
      split <;> omega
    omega
  rw [pk_and x.toInt8.toInt32 (m := 255) 8 (by decide), pk_and x (m := 255) 8 (by decide), e3]
theorem by_b (x : Int32) : -128 ≤ x.toInt8.toInt32 ∧ x.toInt8.toInt32 ≤ 127 := by
  have e : x.toInt8.toInt32.toInt = x.toInt8.toInt := Int8.toInt_toInt32 _
  have h1 := Int8.le_toInt x.toInt8
  have h2 := Int8.toInt_lt x.toInt8
  have e1 : (-128 : Int32).toInt = -128 := by decide
  have e2 : (127 : Int32).toInt = 127 := by decide
  constructor
  · rw [Int32.le_iff_toInt_le, e, e1]; omega
  · rw [Int32.le_iff_toInt_le, e, e2]; omega
def wdF (a b c : Int32) (k : Nat) : Int32 := if k < 4 then a else if k < 8 then b else c
def fdB (a b c : Int32) (k : Nat) : Int32 := (wdF a b c k >>> ((24 - 8 * nI (k % 4)) &&& 31)) &&& 255
def fdU (T : Mem) (p : Nat) (a b c : Int32) : Mem := u2 (sR T 60 (fun k => if p ≤ k ∧ k < p + 12 then fdB a b c (k - p) else T 60 k)) 55 6 (nI (p + 12))
def oFed (T : Mem) (a b c : Int32) : Int32 × Mem := if 96 < T 55 6 + 12 then (-1000000003, T) else (T 55 6 + 12, fdU T (T 55 6).toNatClampNeg a b c)
theorem tpW_o (I : Mem) (a : Int32) (n : Nat) {x : Nat} (h1 : x ≠ 23) (h2 : x ≠ 24) : ∀ k, tpW I a n k x = I x
  | 0 => rfl
  | k + 1 => by
    show u2 (u2 (tpW I a n k) 24 (n + k) (tpB a k)) 23 1 (nI (n + k + 1)) x = I x
    rw [u2_row h1, u2_row h2, tpW_o I a n h1 h2 k]
theorem tpW_i (I : Mem) (a : Int32) (n : Nat) {j : Nat} : ∀ k, tpW I a n k 24 j = if n ≤ j ∧ j < n + k then tpB a (j - n) else I 24 j
  | 0 => by rw [if_neg (by omega)]; rfl
  | k + 1 => by
    show u2 (u2 (tpW I a n k) 24 (n + k) (tpB a k)) 23 1 (nI (n + k + 1)) 24 j = _
    rw [u2_a (by decide)]
    by_cases q : j = n + k
    · rw [q, u2_s, if_pos (by omega), show n + k - n = k by omega]
    · rw [u2_k q, tpW_i I a n k]
      by_cases r : n ≤ j ∧ j < n + k
      · rw [if_pos r, if_pos (by omega)]
      · rw [if_neg r, if_neg (by omega)]
theorem tpB_c (a : Int32) (k : Nat) : tpB a k &&& 255 = (a >>> ((24 - 8 * nI k) &&& 31)) &&& 255 ∧ -128 ≤ tpB a k ∧ tpB a k ≤ 127 := by
  unfold tpB
  rw [pk_vb]
  exact ⟨by_and _, by_b _⟩
theorem x_feed {G : GX} {S : Shp} {I T : Mem} {d tn bn : Nat} {tx : Nat → Tx} (hK : K S I T tn bn tx) (a b c : Int32) (hd : 12 ≤ d) : PM G yX8_feed cX8_feed 4 (some .int) d 0 0 [.ref 0, .int a, .int b, .int c] S I (CO I (oFed T a b c).2 tn bn tx (oFed T a b c).1) := by
  have hsh := hK.2.1
  obtain ⟨p, hp, ep⟩ := hK.1.2.2.2.2.2.2.2.1
  obtain ⟨c10, c10'⟩ := hK.2.2.2.2.2.2.2.2.2
  have hz := c10.trans ep
  have eo : oFed T a b c = if 96 < nI (p + 12) then (-1000000003, T) else (nI (p + 12), fdU T p a b c) := by unfold oFed; rw [ep, show nI p + 12 = nI (p + 12) from nI_add p 12, nI_clamp (by omega)]
  refine PM.of (ls := [some (.ref 0), some (.int a), some (.int b), some (.int c)]) (by decide) rfl (Nat.le_of_ble_eq_true rfl) rfl ?_
  show PW G RX8 "feed" _ _ _ _ _ _ _ _ _ _ _ _
  refine P_aload0 (pc' := 1) dX8_feed_0 rfl ?_
  refine P_getr (pc' := 4) dX8_feed_1 rfl fl_X8_37 rfl (l_0 hsh) (t_0 hsh) (q_0_5 hsh) ?_
  refine P_geti (pc' := 7) dX8_feed_4 rfl fl_X8_217 rfl (l_23 hsh) (t_23 hsh) ?_
  refine P_as hz ?_
  refine P_bipush (pc' := 9) dX8_feed_7 rfl (v := 12) rfl ?_
  refine P_iadd (pc' := 10) dX8_feed_9 rfl ?_
  refine P_as (y := nI (p + 12)) (nI_add p 12) ?_
  refine P_bipush (pc' := 12) dX8_feed_10 rfl (v := 96) rfl ?_
  refine P_icmp_le (tgt := 18) (pc' := 15) dX8_feed_12 rfl rfl (fun h12 => ?_) (fun h12 => ?_)
  · have h84 : p + 12 ≤ 96 := (nI_leI (a := p + 12) (b := 96) (by omega) (by decide)).mp h12
    have z1 : tpW I a p 4 23 1 = nI (p + 4) := tpW_n I a p hz 4
    have z2 : tpW (tpW I a p 4) b (p + 4) 4 23 1 = nI (p + 8) := tpW_n _ b (p + 4) z1 4
    have z3 : tpW (tpW (tpW I a p 4) b (p + 4) 4) c (p + 8) 4 23 1 = nI (p + 12) := tpW_n _ c (p + 8) z2 4
    refine P_aload0 (pc' := 19) dX8_feed_18 rfl ?_
    refine P_getr (pc' := 22) dX8_feed_19 rfl fl_X8_37 rfl (l_0 hsh) (t_0 hsh) (q_0_5 hsh) ?_
    refine P_iload1 (pc' := 23) dX8_feed_22 rfl ?_
    refine P_callV1 (pc' := 26) dX8_feed_23 rfl lk_X8_220 (l_23 hsh) (t_23 hsh) (c_X6_add (d := 1) (n := p) hsh hz (by omega)) (by omega) (Nat.le_of_ble_eq_true rfl) (fun r S' I' hq => ?_)
    obtain ⟨rfl, rfl, rfl⟩ := hq
    refine P_aload0 (pc' := 27) dX8_feed_26 rfl ?_
    refine P_getr (pc' := 30) dX8_feed_27 rfl fl_X8_37 rfl (l_0 hsh) (t_0 hsh) (q_0_5 hsh) ?_
    refine P_iload2 (pc' := 31) dX8_feed_30 rfl ?_
    refine P_callV1 (pc' := 34) dX8_feed_31 rfl lk_X8_220 (l_23 hsh) (t_23 hsh) (c_X6_add (d := 1) (n := p + 4) hsh z1 (by omega)) (by omega) (Nat.le_of_ble_eq_true rfl) (fun r S' I' hq => ?_)
    obtain ⟨rfl, rfl, rfl⟩ := hq
    refine P_aload0 (pc' := 35) dX8_feed_34 rfl ?_
    refine P_getr (pc' := 38) dX8_feed_35 rfl fl_X8_37 rfl (l_0 hsh) (t_0 hsh) (q_0_5 hsh) ?_
    refine P_iload3 (pc' := 39) dX8_feed_38 rfl ?_
    refine P_callV1 (pc' := 42) dX8_feed_39 rfl lk_X8_220 (l_23 hsh) (t_23 hsh) (c_X6_add (d := 1) (n := p + 8) hsh z2 (by omega)) (by omega) (Nat.le_of_ble_eq_true rfl) (fun r S' I' hq => ?_)
    obtain ⟨rfl, rfl, rfl⟩ := hq
    refine P_aload0 (pc' := 43) dX8_feed_42 rfl ?_
    refine P_getr (pc' := 46) dX8_feed_43 rfl fl_X8_37 rfl (l_0 hsh) (t_0 hsh) (q_0_5 hsh) ?_
    refine P_geti (pc' := 49) dX8_feed_46 rfl fl_X8_217 rfl (l_23 hsh) (t_23 hsh) ?_
    refine P_as z3 ?_
    refine P_iret dX8_feed_49 ?_
    refine CO.m (eo.trans (if_neg (Int32.not_lt.mpr h12))) (hK.tape (fun x h1 h2 _ _ => ?_) (fun x h1 h2 => ?_) (fun k hk => ?_) ⟨p + 12, h84, u2_s _ _ _ _⟩ ⟨?_, fun k hk => ?_⟩) (fun x h1 h2 => ?_)
    · rw [tpW_o _ _ _ h1 h2, tpW_o _ _ _ h1 h2, tpW_o _ _ _ h1 h2]
    · unfold fdU; rw [u2_row h1, sR_n h2]
    · unfold fdU; rw [u2_k hk, sR_n (by decide)]
    · unfold fdU; rw [u2_s]; exact z3
    · unfold fdU
      rw [u2_a (by decide), sR_s, tpW_i]
      by_cases q3 : p + 8 ≤ k ∧ k < p + 8 + 4
      · rw [if_pos q3, if_pos (by omega)]
        obtain ⟨t1, t2⟩ := tpB_c c (k - (p + 8))
        refine ⟨?_, t2⟩
        rw [t1]
        unfold fdB wdF
        rw [if_neg (by omega), if_neg (by omega), show (k - p) % 4 = k - (p + 8) by omega]
      · rw [if_neg q3, tpW_i]
        by_cases q2 : p + 4 ≤ k ∧ k < p + 4 + 4
        · rw [if_pos q2, if_pos (by omega)]
          obtain ⟨t1, t2⟩ := tpB_c b (k - (p + 4))
          refine ⟨?_, t2⟩
          rw [t1]
          unfold fdB wdF
          rw [if_neg (by omega), if_pos (by omega), show (k - p) % 4 = k - (p + 4) by omega]
        · rw [if_neg q2, tpW_i]
          by_cases q1 : p ≤ k ∧ k < p + 4
          · rw [if_pos q1, if_pos (by omega)]
            obtain ⟨t1, t2⟩ := tpB_c a (k - p)
            refine ⟨?_, t2⟩
            rw [t1]
            unfold fdB wdF
            rw [if_pos (by omega), show (k - p) % 4 = k - p by omega]
          · rw [if_neg q1, if_neg (by omega)]
            exact c10' k hk
    · rw [tpW_o _ _ _ (by omega) (by omega), tpW_o _ _ _ (by omega) (by omega), tpW_o _ _ _ (by omega) (by omega)]
  · refine P_ldc (pc' := 17) dX8_feed_15 rfl co_X8_85 ?_
    refine P_iret dX8_feed_17 ?_
    exact CO.n (eo.trans (if_pos (Int32.not_le.mp h12))) hK

