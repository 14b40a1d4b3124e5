theorem RI.u {T I : Mem} (h : RI T I) (a k : Nat) (v : Int32) : RI (u2 T a k v) (u2 I a k v) := fun x h1 h2 => by
  funext y
  unfold u2
  rw [h x h1 h2]
theorem RI.s {T I : Mem} (h : RI T I) (a : Nat) (f : Nat → Int32) : RI (sR T a f) (sR I a f) := fun x h1 h2 => by
  unfold sR
  rw [h x h1 h2]
theorem RI.c {T I : Mem} (h : RI T I) {f t : Nat} (n : Nat) (h1 : 55 ≤ f) (h2 : f < 77) (h3 : 55 ≤ t) (h4 : t < 77) : RI (cpR T f t n) (cpR I f t n) := by
  unfold cpR
  rw [h f h1 h2, h t h3 h4]
  exact h.s _ _
theorem RO.m {S : Shp} {I J : Mem} {o : Int32 × Mem} {v : Int32} {U : Mem} (e : o = (v, U)) (h : RE U J) (hf : ∀ x, (x < 55 ∨ 77 ≤ x) → J x = I x) : RO S I o.2 o.1 (some (.int v)) S J := by
  subst e
  exact ⟨rfl, rfl, h, hf⟩
theorem RO.n {S : Shp} {T I : Mem} {o : Int32 × Mem} {v : Int32} (e : o = (v, T)) (h : RI T I) : RO S I o.2 o.1 (some (.int v)) S I := RO.m e (RE.rf h) (fun _ _ => rfl)
theorem deS_ps {I : Mem} {n : Nat} (h : I 56 1 = nI n) (hn : n ≤ 8) : PsR I (deS (aR I)) (u2 (u2 (u2 (u2 (u2 (u2 (u2 I 56 0 (zn (zn (zn (I 56 0))))) 56 (16 + 5 * n) (nI (dz (zn (I 56 0)) % 6))) 56 (17 + 5 * n) (nI (dz (zn (zn (I 56 0))) % 9))) 56 (18 + 5 * n) (nI (dz (zn (zn (zn (I 56 0)))) % 21))) 56 (19 + 5 * n) 0) 56 (20 + 5 * n) 0) 56 1 (nI (n + 1))) := by
  have p1 := PsR.put (I := I) (i := 0) (v := zn (zn (zn (I 56 0)))) (by decide)
  have p2 := cm_ps (I := u2 I 56 0 (zn (zn (zn (I 56 0))))) (k := nI (dz (zn (I 56 0)) % 6)) (c := nI (dz (zn (zn (I 56 0))) % 9)) (s := nI (dz (zn (zn (zn (I 56 0)))) % 21)) hn
  rw [aR_u (by decide)] at p2
  have e : aR I 1 = nI n := by rw [← aR_rd I (by decide)]; exact h
  rw [deS_n e hn, ← aR_rd I (i := 0) (by decide)]
  exact p1.tr p2
theorem lp_X9_deal {G : GX} {S : Shp} {I0 : Mem} {d m j : Nat} {R : Nat → Int32} {Q : Option Value → Shp → Mem → Prop} (hsh : SHP S) (hj : j ≤ 8) (hd : 12 ≤ d) (hQ : ∀ J, PsR I0 R J → Q (some (.int (nI m))) S J) : ∀ (k i n : Nat) (A : Nat → Int32) (I : Mem) (x3 x4 x5 : Option Value), i + k = m → i ≤ j → k = min (j - i) (8 - n) → n ≤ 8 → WA A n → aR I = A → PsR I0 A I → it deS k A = R → PW G RX9 "deal" cX9_deal 6 (some .int) d 0 0 Q 15 [some (.ref 55), some (.int (nI j)), some (.int (nI i)), x3, x4, x5] [] S I := by
  intro k
  induction k with
  | zero =>
    intro i n A I x3 x4 x5 hi hij hk hn hw eA hp hR
    have hR : A = R := hR
    subst hR
    have hi : i = m := by omega
    subst hi
    have e1 : I 56 1 = nI n := by rw [aR_rd I (by decide), eA]; exact hw.1
    refine P_iload2 (pc' := 16) dX9_deal_15 rfl ?_
    refine P_iload1 (pc' := 17) dX9_deal_16 rfl ?_
    refine P_icmp_ge (tgt := 70) (pc' := 20) dX9_deal_17 rfl rfl (fun h17 => ?_) (fun h17 => ?_)
    · refine P_iload2 (pc' := 71) dX9_deal_70 rfl ?_
      refine P_iret dX9_deal_71 ?_
      exact hQ I hp
    · refine P_aload0 (pc' := 21) dX9_deal_20 rfl ?_
      refine P_getr (pc' := 24) dX9_deal_21 rfl fl_X9_9 rfl (l_55 hsh) (t_55 hsh) (q_55_0 hsh) ?_
      refine P_iconst (pc' := 25) dX9_deal_24 rfl (v := 1) rfl ?_
      refine P_iald (pc' := 26) dX9_deal_25 rfl (l_56 hsh) (t_56 hsh) (j := 1) rfl (by decide) (by decide) ?_
      refine P_as e1 ?_
      refine P_bipush (pc' := 28) dX9_deal_26 rfl (v := 8) rfl ?_
      refine P_icmp_ge (tgt := 70) (pc' := 31) dX9_deal_28 rfl rfl (fun h28 => ?_) (fun h28 => ?_)
      · refine P_iload2 (pc' := 71) dX9_deal_70 rfl ?_
        refine P_iret dX9_deal_71 ?_
        exact hQ I hp
      · exact absurd (nI_le (a := 8) (b := n) (by have := g0 h17 (by omega) (by omega); omega) (by omega)) h28
  | succ k ih =>
    intro i n A I x3 x4 x5 hi hij hk hn hw eA hp hR
    have e1 : I 56 1 = nI n := by rw [aR_rd I (by decide), eA]; exact hw.1
    rw [it_s] at hR
    refine P_iload2 (pc' := 16) dX9_deal_15 rfl ?_
    refine P_iload1 (pc' := 17) dX9_deal_16 rfl ?_
    refine P_icmp_ge (tgt := 70) (pc' := 20) dX9_deal_17 rfl rfl (fun h17 => ?_) (fun h17 => ?_)
    · exact absurd h17 (nI_ge (by omega) (by omega))
    · refine P_aload0 (pc' := 21) dX9_deal_20 rfl ?_
      refine P_getr (pc' := 24) dX9_deal_21 rfl fl_X9_9 rfl (l_55 hsh) (t_55 hsh) (q_55_0 hsh) ?_
      refine P_iconst (pc' := 25) dX9_deal_24 rfl (v := 1) rfl ?_
      refine P_iald (pc' := 26) dX9_deal_25 rfl (l_56 hsh) (t_56 hsh) (j := 1) rfl (by decide) (by decide) ?_
      refine P_as e1 ?_
      refine P_bipush (pc' := 28) dX9_deal_26 rfl (v := 8) rfl ?_
      refine P_icmp_ge (tgt := 70) (pc' := 31) dX9_deal_28 rfl rfl (fun h28 => ?_) (fun h28 => ?_)
      · exact absurd h28 (nI_ge (b := 8) (by omega) (by decide))
      · refine P_aload0 (pc' := 32) dX9_deal_31 rfl ?_
        refine P_callV0 (pc' := 35) dX9_deal_32 rfl lk_X9_129 (l_55 hsh) (t_55 hsh) (c_X9_draw (d := 1) hsh) (by omega) (Nat.le_of_ble_eq_true rfl) (fun r S' I' hq => ?_)
        obtain ⟨rfl, rfl, rfl⟩ := hq
        refine P_bipush (pc' := 37) dX9_deal_35 rfl (v := 6) rfl ?_
        refine P_irem (pc' := 38) dX9_deal_37 rfl (by decide) ?_
        refine P_as (y := nI (dz (zn (I 56 0)) % 6)) (rm_n (k := 6) _ (by decide) (by decide)) ?_
        refine P_istore3 (pc' := 39) dX9_deal_38 rfl (by decide) rfl ?_
        refine P_aload0 (pc' := 40) dX9_deal_39 rfl ?_
        refine P_callV0 (pc' := 43) dX9_deal_40 rfl lk_X9_129 (l_55 hsh) (t_55 hsh) (c_rdraw2 (d := 1) hsh) (by omega) (Nat.le_of_ble_eq_true rfl) (fun r S' I' hq => ?_)
        obtain ⟨rfl, rfl, rfl⟩ := hq
        refine P_bipush (pc' := 45) dX9_deal_43 rfl (v := 9) rfl ?_
        refine P_irem (pc' := 46) dX9_deal_45 rfl (by decide) ?_
        refine P_as (y := nI (dz (zn (zn (I 56 0))) % 9)) (rm_n (k := 9) _ (by decide) (by decide)) ?_
        refine P_istore4 (pc' := 48) dX9_deal_46 rfl (by decide) rfl ?_
        refine P_aload0 (pc' := 49) dX9_deal_48 rfl ?_
        refine P_iload3 (pc' := 50) dX9_deal_49 rfl ?_
        refine P_iload4 (pc' := 52) dX9_deal_50 rfl ?_
        refine P_aload0 (pc' := 53) dX9_deal_52 rfl ?_
        refine P_callV0 (pc' := 56) dX9_deal_53 rfl lk_X9_129 (l_55 hsh) (t_55 hsh) (c_rdraw2 (d := 1) hsh) (by omega) (Nat.le_of_ble_eq_true rfl) (fun r S' I' hq => ?_)
        obtain ⟨rfl, rfl, rfl⟩ := hq
        refine P_bipush (pc' := 58) dX9_deal_56 rfl (v := 21) rfl ?_
        refine P_irem (pc' := 59) dX9_deal_58 rfl (by decide) ?_
        refine P_as (y := nI (dz (zn (zn (zn (I 56 0)))) % 21)) (rm_n (k := 21) _ (by decide) (by decide)) ?_
        refine P_callV3 (pc' := 62) dX9_deal_59 rfl lk_X9_85 (l_55 hsh) (t_55 hsh) (c_X9_comes (d := 1) (n := n) hsh (by rw [u2_k (by decide)]; exact e1) hn (by omega)) (by omega) (Nat.le_of_ble_eq_true rfl) (fun r S' I' hq => ?_)
        obtain ⟨rfl, rfl, rfl⟩ := hq
        refine P_istore5 (pc' := 64) dX9_deal_62 rfl (by decide) rfl ?_
        refine P_iinc2 (pc' := 67) dX9_deal_64 rfl (nI_1 i) (by decide) rfl ?_
        refine P_goto (tgt := 15) dX9_deal_67 rfl ?_
        have p := deS_ps (n := n) e1 hn
        rw [eA] at p
        exact ih (i + 1) (n + 1) (deS A) _ _ _ _ (by omega) (by omega) (by omega) (by omega) (deS_wa hw (by omega)) p.1 (hp.tr p) hR
theorem r_deal {G : GX} {S : Shp} {I T : Mem} {d tn bn : Nat} {tx : Nat → Tx} (hT : KT T tn bn tx) (hsh : SHP S) (hI : RI T I) (v : Int32) (hd : 12 ≤ d) : PM G yX9_deal cX9_deal 6 (some .int) d 0 0 [.ref 55, .int v] S I (RO S I (nw T (oDea (aR T) v).2) (oDea (aR T) v).1) := by
  obtain ⟨n, hn, hw, eR, hz, hr, hrd⟩ := hT.n hI
  refine PM.of (ls := [some (.ref 55), some (.int v), none, none, none, none]) (by decide) rfl (Nat.le_of_ble_eq_true rfl) rfl ?_
  show PW G RX9 "deal" _ _ _ _ _ _ _ _ _ _ _ _
  by_cases hv : wi v 1 8 = 0
  · have eo : oDea (aR T) v = (-1000000001, aR T) := if_pos hv
    refine P_iload1 (pc' := 1) dX9_deal_0 rfl ?_
    refine P_iconst (pc' := 2) dX9_deal_1 rfl (v := 1) rfl ?_
    refine P_bipush (pc' := 4) dX9_deal_2 rfl (v := 8) rfl ?_
    refine P_callS3 (pc' := 7) dX9_deal_4 rfl lk_X9_75 (c_X9_in (d := 0) v 1 8) (by omega) (Nat.le_of_ble_eq_true rfl) (fun r S' I' hq => ?_)
    obtain ⟨rfl, rfl, rfl⟩ := hq
    refine P_if_ne (tgt := 13) (pc' := 10) dX9_deal_7 rfl rfl (fun h7 => ?_) (fun h7 => ?_)
    · exact absurd hv h7
    · refine P_ldc (pc' := 12) dX9_deal_10 rfl co_X9_83 ?_
      refine P_iret dX9_deal_12 ?_
      exact RO.of eo hI
  · obtain ⟨j, j1, j8, rfl⟩ := wi_b1 (m := 8) (by decide) hv
    have eo : oDea (aR T) (nI j) = (nI (min j (8 - n)), it deS (min j (8 - n)) (aR T)) := by unfold oDea; rw [if_neg hv, nI_clamp (by omega), hw.1, nI_clamp (by omega)]
    rw [eo]
    refine P_iload1 (pc' := 1) dX9_deal_0 rfl ?_
    refine P_iconst (pc' := 2) dX9_deal_1 rfl (v := 1) rfl ?_
    refine P_bipush (pc' := 4) dX9_deal_2 rfl (v := 8) rfl ?_
    refine P_callS3 (pc' := 7) dX9_deal_4 rfl lk_X9_75 (c_X9_in (d := 0) _ 1 8) (by omega) (Nat.le_of_ble_eq_true rfl) (fun r S' I' hq => ?_)
    obtain ⟨rfl, rfl, rfl⟩ := hq
    refine P_if_ne (tgt := 13) (pc' := 10) dX9_deal_7 rfl rfl (fun h7 => ?_) (fun h7 => ?_)
    · refine P_iconst (pc' := 14) dX9_deal_13 rfl (v := 0) rfl ?_
      refine P_istore2 (pc' := 15) dX9_deal_14 rfl (by decide) rfl ?_
      exact lp_X9_deal (I0 := I) (m := min j (8 - n)) (R := it deS (min j (8 - n)) (aR T)) hsh j8 hd (fun J p => RO.ps hI p) (min j (8 - n)) 0 n (aR T) I _ _ _ (by omega) (by omega) (by omega) hn hw eR (by rw [← eR]; exact PsR.self) rfl
    · exact absurd h7 hv
theorem hl_min {a b : Nat} (ha : a < 2 ^ 31) (hb : b < 2 ^ 31) : hl (nI a) 0 (nI b) = nI (min b a) := by
  unfold hl
  rw [if_neg (nI_pos ha)]
  by_cases h : b < a
  · rw [if_pos (nI_lt h ha), Nat.min_eq_left (by omega)]
  · rw [if_neg (nI_nlt (by omega) hb), Nat.min_eq_right (by omega)]
theorem r_hours {G : GX} {S : Shp} {I T : Mem} {d tn bn : Nat} {tx : Nat → Tx} (hT : KT T tn bn tx) (hsh : SHP S) (hI : RI T I) (v : Int32) (hd : 12 ≤ d) : PM G yX9_hours cX9_hours 3 (some .int) d 0 0 [.ref 55, .int v] S I (RO S I (nw T (oHrs (alX tn tx) (aR T) v).2) (oHrs (alX tn tx) (aR T) v).1) := by
  obtain ⟨n, hn, hw, eR, hz, hr, hrd⟩ := hT.n hI
  obtain ⟨-, ⟨g, hg, eg, -⟩, -⟩ := hT.1
  have hwI : WA (aR I) n := by rw [eR]; exact hw
  refine PM.of (ls := [some (.ref 55), some (.int v), none]) (by decide) rfl (Nat.le_of_ble_eq_true rfl) rfl ?_
  show PW G RX9 "hours" _ _ _ _ _ _ _ _ _ _ _ _
  refine P_iload1 (pc' := 1) dX9_hours_0 rfl ?_
  refine P_iconst (pc' := 2) dX9_hours_1 rfl (v := 1) rfl ?_
  refine P_bipush (pc' := 4) dX9_hours_2 rfl (v := 100) rfl ?_
  refine P_callS3 (pc' := 7) dX9_hours_4 rfl lk_X9_75 (c_X9_in (d := 0) v 1 100) (by omega) (Nat.le_of_ble_eq_true rfl) (fun r S' I' hq => ?_)
  obtain ⟨rfl, rfl, rfl⟩ := hq
  refine P_if_ne (tgt := 13) (pc' := 10) dX9_hours_7 rfl rfl (fun h7 => ?_) (fun h7 => ?_)
  · obtain ⟨j, j1, j2, rfl⟩ := wi_b1 (m := 100) (by decide) h7
    refine P_aload0 (pc' := 14) dX9_hours_13 rfl ?_
    refine P_iconst (pc' := 15) dX9_hours_14 rfl (v := 4) rfl ?_
    refine P_callV1 (pc' := 18) dX9_hours_15 rfl lk_X9_140 (l_55 hsh) (t_55 hsh) (c_X9_sumOf (d := 2) (k := 4) hsh hz (by omega) (by decide) (by omega)) (by omega) (Nat.le_of_ble_eq_true rfl) (fun r S' I' hq => ?_)
    obtain ⟨rfl, rfl, rfl⟩ := hq
    refine P_istore2 (pc' := 19) dX9_hours_18 rfl (by decide) rfl ?_
    refine P_aload0 (pc' := 20) dX9_hours_19 rfl ?_
    refine P_sipush (pc' := 23) dX9_hours_20 rfl (v := 9999) rfl ?_
    refine P_aload0 (pc' := 24) dX9_hours_23 rfl ?_
    refine P_getr (pc' := 27) dX9_hours_24 rfl fl_X9_9 rfl (l_55 hsh) (t_55 hsh) (q_55_0 hsh) ?_
    refine P_iconst (pc' := 28) dX9_hours_27 rfl (v := 2) rfl ?_
    refine P_iald (pc' := 29) dX9_hours_28 rfl (l_56 hsh) (t_56 hsh) (j := 2) rfl (by decide) (by decide) ?_
    refine P_as (y := nI g) ((hI.r (by decide)).trans eg) ?_
    refine P_isub (pc' := 30) dX9_hours_29 rfl ?_
    refine P_as (y := nI (9999 - g)) (pk_sub (a := 9999) (b := g) hg) ?_
    refine P_iconst (pc' := 31) dX9_hours_30 rfl (v := 0) rfl ?_
    refine P_iload1 (pc' := 32) dX9_hours_31 rfl ?_
    refine P_callS3 (pc' := 35) dX9_hours_32 rfl lk_X9_110 (c_X9_within (d := 0) _ _ _) (by omega) (Nat.le_of_ble_eq_true rfl) (fun r S' I' hq => ?_)
    obtain ⟨rfl, rfl, rfl⟩ := hq
    refine P_as (hl_min (a := 9999 - g) (b := j) (by omega) (by omega)) ?_
    refine P_callV1 (pc' := 38) dX9_hours_35 rfl lk_X9_143 (l_55 hsh) (t_55 hsh) (c_X9_goesOn (d := 6) (n := n) hsh hr hrd hwI (by omega) (by omega)) (by omega) (Nat.le_of_ble_eq_true rfl) (fun r S3 I3 hq => ?_)
    obtain ⟨rfl, rfl, hP⟩ := hq
    have hz3 : I3 56 1 = nI n := by rw [aR_rd I3 (by decide), hP.1]; exact (aHrs_wa hwI).1
    refine P_aload0 (pc' := 39) dX9_hours_38 rfl ?_
    refine P_iconst (pc' := 40) dX9_hours_39 rfl (v := 4) rfl ?_
    refine P_callV1 (pc' := 43) dX9_hours_40 rfl lk_X9_140 (l_55 hsh) (t_55 hsh) (c_X9_sumOf (d := 2) (k := 4) hsh hz3 (by omega) (by decide) (by omega)) (by omega) (Nat.le_of_ble_eq_true rfl) (fun r S' I' hq => ?_)
    obtain ⟨rfl, rfl, rfl⟩ := hq
    refine P_iload2 (pc' := 44) dX9_hours_43 rfl ?_
    refine P_isub (pc' := 45) dX9_hours_44 rfl ?_
    refine P_iret dX9_hours_45 ?_
    have e := oHrs_y (al := alX tn tx) h7 hw.1 (by omega) j2 eg hg
    rw [e]
    show RO S I (nw T (aHrs (alX tn tx) n (min j (9999 - g)) (aR T))) (aSum (aHrs (alX tn tx) n (min j (9999 - g)) (aR T)) 20 n - aSum (aR T) 20 n) (some (.int (aSum (aR I3) 20 n - aSum (aR I) 20 n))) S I3
    rw [hP.1, eR]
    rw [eR] at hP
    exact RO.ps hI hP
  · refine P_ldc (pc' := 12) dX9_hours_10 rfl co_X9_83 ?_
    refine P_iret dX9_hours_12 ?_
    exact RO.of (show oHrs (alX tn tx) (aR T) v = (-1000000001, aR T) from if_pos h7) hI
theorem c_guild {G : GX} {S : Shp} {I : Mem} {d n : Nat} {Q : Option Value → Shp → Mem → Prop} (y : Int32) (hsh : SHP S) (hw : WA (aR I) n) (hd : 3 ≤ d) (hQ : Q (some (.int (vGui (aR I) y))) S I) : PM G yX9_guild cX9_guild 2 (some .int) d 0 0 [.ref 55, .int y] S I Q := by
  have hz : I 56 1 = nI n := by rw [aR_rd I (by decide)]; exact hw.1
  have hn := hw.2.1
  refine PM.of (ls := [some (.ref 55), some (.int y)]) (by decide) rfl (Nat.le_of_ble_eq_true rfl) rfl ?_
  show PW G RX9 "guild" _ _ _ _ _ _ _ _ _ _ _ _
  rw [vGui_n hw.1 (by omega)] at hQ
  rcases sw_c y 4 with ⟨i, hi, rfl⟩ | hy
  · have key : i = 0 ∨ i = 1 ∨ i = 2 ∨ i = 3 ∨ i = 4 := by omega
    rcases key with rfl | rfl | rfl | rfl | rfl
    · have hQ : Q (some (.int (aSum (aR I) 19 n))) S I := hQ
      refine P_iload1 (pc' := 1) dX9_guild_0 rfl ?_
      refine P_tabIn (tgt := 36) dX9_guild_1 (by decide) (by decide) rfl rfl ?_
      refine P_aload0 (pc' := 37) dX9_guild_36 rfl ?_
      refine P_iconst (pc' := 38) dX9_guild_37 rfl (v := 3) rfl ?_
      refine P_callV1 (pc' := 41) dX9_guild_38 rfl lk_X9_140 (l_55 hsh) (t_55 hsh) (c_X9_sumOf (d := 2) (k := 3) hsh hz (by omega) (by decide) (by omega)) (by omega) (Nat.le_of_ble_eq_true rfl) (fun r S' I' hq => ?_)
      obtain ⟨rfl, rfl, rfl⟩ := hq
      refine P_iret dX9_guild_41 ?_
      exact hQ
    · have hQ : Q (some (.int (aR I 6))) S I := hQ
      refine P_iload1 (pc' := 1) dX9_guild_0 rfl ?_
      refine P_tabIn (tgt := 42) dX9_guild_1 (by decide) (by decide) rfl rfl ?_
      refine P_aload0 (pc' := 43) dX9_guild_42 rfl ?_
      refine P_getr (pc' := 46) dX9_guild_43 rfl fl_X9_9 rfl (l_55 hsh) (t_55 hsh) (q_55_0 hsh) ?_
      refine P_bipush (pc' := 48) dX9_guild_46 rfl (v := 6) rfl ?_
      refine P_iald (pc' := 49) dX9_guild_48 rfl (l_56 hsh) (t_56 hsh) (j := 6) rfl (by decide) (by decide) ?_
      refine P_iret dX9_guild_49 ?_
      rw [aR_rd I (by decide)]
      exact hQ
    · have hQ : Q (some (.int (aSum (aR I) 20 n))) S I := hQ
      refine P_iload1 (pc' := 1) dX9_guild_0 rfl ?_
      refine P_tabIn (tgt := 50) dX9_guild_1 (by decide) (by decide) rfl rfl ?_
      refine P_aload0 (pc' := 51) dX9_guild_50 rfl ?_
      refine P_iconst (pc' := 52) dX9_guild_51 rfl (v := 4) rfl ?_
      refine P_callV1 (pc' := 55) dX9_guild_52 rfl lk_X9_140 (l_55 hsh) (t_55 hsh) (c_X9_sumOf (d := 2) (k := 4) hsh hz (by omega) (by decide) (by omega)) (by omega) (Nat.le_of_ble_eq_true rfl) (fun r S' I' hq => ?_)
      obtain ⟨rfl, rfl, rfl⟩ := hq
      refine P_iret dX9_guild_55 ?_
      exact hQ
    · have hQ : Q (some (.int (aAgs (aR I) n 0 0))) S I := hQ
      refine P_iload1 (pc' := 1) dX9_guild_0 rfl ?_
      refine P_tabIn (tgt := 56) dX9_guild_1 (by decide) (by decide) rfl rfl ?_
      refine P_aload0 (pc' := 57) dX9_guild_56 rfl ?_
      refine P_callV0 (pc' := 60) dX9_guild_57 rfl lk_X9_147 (l_55 hsh) (t_55 hsh) (c_X9_against (d := 2) hsh hw (by omega)) (by omega) (Nat.le_of_ble_eq_true rfl) (fun r S' I' hq => ?_)
      obtain ⟨rfl, rfl, rfl⟩ := hq
      refine P_iret dX9_guild_60 ?_
      exact hQ
    · have hQ : Q (some (.int (aTak (aR I) n 0 0))) S I := hQ
      refine P_iload1 (pc' := 1) dX9_guild_0 rfl ?_
      refine P_tabIn (tgt := 61) dX9_guild_1 (by decide) (by decide) rfl rfl ?_
      refine P_aload0 (pc' := 62) dX9_guild_61 rfl ?_
      refine P_callV0 (pc' := 65) dX9_guild_62 rfl lk_X9_150 (l_55 hsh) (t_55 hsh) (c_X9_taken (d := 2) hsh hz (by omega) (by omega)) (by omega) (Nat.le_of_ble_eq_true rfl) (fun r S' I' hq => ?_)
      obtain ⟨rfl, rfl, rfl⟩ := hq
      refine P_iret dX9_guild_65 ?_
      exact hQ
  · have e0 : ∀ i : Nat, i ≤ 4 → ¬ y = nI i := fun i hi z => by rw [z, nI_toInt (by omega)] at hy; omega
    rw [if_neg (show ¬ y = 0 from e0 0 (by decide)), if_neg (show ¬ y = 1 from e0 1 (by decide)), if_neg (show ¬ y = 2 from e0 2 (by decide)), if_neg (show ¬ y = 3 from e0 3 (by decide)), if_neg (show ¬ y = 4 from e0 4 (by decide))] at hQ
    refine P_iload1 (pc' := 1) dX9_guild_0 rfl ?_
    refine P_tabOut (tgt := 66) dX9_guild_1 hy rfl ?_
    refine P_ldc (pc' := 68) dX9_guild_66 rfl co_X9_83 ?_
    refine P_iret dX9_guild_68 ?_
    exact hQ
theorem r_guild {G : GX} {S : Shp} {I T : Mem} {d tn bn : Nat} {tx : Nat → Tx} (hT : KT T tn bn tx) (hsh : SHP S) (hI : RI T I) (y : Int32) (hd : 12 ≤ d) : PM G yX9_guild cX9_guild 2 (some .int) d 0 0 [.ref 55, .int y] S I (RO S I T (vGui (aR T) y)) := by
  obtain ⟨n, hn, hw, eR, hz, hr, hrd⟩ := hT.n hI
  exact c_guild (n := n) y hsh (by rw [eR]; exact hw) (by omega) (by rw [eR]; exact RO.id hI)
theorem r_count {G : GX} {S : Shp} {I T : Mem} {d tn bn : Nat} {tx : Nat → Tx} (hT : KT T tn bn tx) (hsh : SHP S) (hI : RI T I) (y : Int32) (hd : 12 ≤ d) : PM G yX9_count cX9_count 2 (some .int) d 0 0 [.ref 55, .int y] S I (RO S I T (vCou T y)) := by
  obtain ⟨n, hn, hw, eR, hz, hr, hrd⟩ := hT.n hI
  have e5 := hI 55 (by decide) (by decide)
  refine PM.of (ls := [some (.ref 55), some (.int y)]) (by decide) rfl (Nat.le_of_ble_eq_true rfl) rfl ?_
  show PW G RX9 "count" _ _ _ _ _ _ _ _ _ _ _ _
  unfold vCou
  rcases sw_c y 8 with ⟨i, hi, rfl⟩ | hy
  · have key : i = 0 ∨ i = 1 ∨ i = 2 ∨ i = 3 ∨ i = 4 ∨ i = 5 ∨ i = 6 ∨ i = 7 ∨ i = 8 := by omega
    rcases key with rfl | rfl | rfl | rfl | rfl | rfl | rfl | rfl | rfl
    · show PW _ _ _ _ _ _ _ _ _ (RO S I T (aR T 1)) _ _ _ _ _
      refine P_iload1 (pc' := 1) dX9_count_0 rfl ?_
      refine P_tabIn (tgt := 52) dX9_count_1 (by decide) (by decide) rfl rfl ?_
      refine P_aload0 (pc' := 53) dX9_count_52 rfl ?_
      refine P_getr (pc' := 56) dX9_count_53 rfl fl_X9_9 rfl (l_55 hsh) (t_55 hsh) (q_55_0 hsh) ?_
      refine P_iconst (pc' := 57) dX9_count_56 rfl (v := 1) rfl ?_
      refine P_iald (pc' := 58) dX9_count_57 rfl (l_56 hsh) (t_56 hsh) (j := 1) rfl (by decide) (by decide) ?_
      refine P_iret dX9_count_58 ?_
      rw [hI.r (by decide)]
      exact RO.id hI
    · show PW _ _ _ _ _ _ _ _ _ (RO S I T (aR T 2)) _ _ _ _ _
      refine P_iload1 (pc' := 1) dX9_count_0 rfl ?_
      refine P_tabIn (tgt := 59) dX9_count_1 (by decide) (by decide) rfl rfl ?_
      refine P_aload0 (pc' := 60) dX9_count_59 rfl ?_
      refine P_getr (pc' := 63) dX9_count_60 rfl fl_X9_9 rfl (l_55 hsh) (t_55 hsh) (q_55_0 hsh) ?_
      refine P_iconst (pc' := 64) dX9_count_63 rfl (v := 2) rfl ?_
      refine P_iald (pc' := 65) dX9_count_64 rfl (l_56 hsh) (t_56 hsh) (j := 2) rfl (by decide) (by decide) ?_
      refine P_iret dX9_count_65 ?_
      rw [hI.r (by decide)]
      exact RO.id hI
    · show PW _ _ _ _ _ _ _ _ _ (RO S I T (aR T 3)) _ _ _ _ _
      refine P_iload1 (pc' := 1) dX9_count_0 rfl ?_
      refine P_tabIn (tgt := 66) dX9_count_1 (by decide) (by decide) rfl rfl ?_
      refine P_aload0 (pc' := 67) dX9_count_66 rfl ?_
      refine P_getr (pc' := 70) dX9_count_67 rfl fl_X9_9 rfl (l_55 hsh) (t_55 hsh) (q_55_0 hsh) ?_
      refine P_iconst (pc' := 71) dX9_count_70 rfl (v := 1) rfl ?_
      refine P_iload1 (pc' := 72) dX9_count_71 rfl ?_
      refine P_iadd (pc' := 73) dX9_count_72 rfl ?_
      refine P_iald (pc' := 74) dX9_count_73 rfl (l_56 hsh) (t_56 hsh) (j := 3) (by decide) (by decide) (by decide) ?_
      refine P_iret dX9_count_74 ?_
      rw [hI.r (by decide)]
      exact RO.id hI
    · show PW _ _ _ _ _ _ _ _ _ (RO S I T (aR T 4)) _ _ _ _ _
      refine P_iload1 (pc' := 1) dX9_count_0 rfl ?_
      refine P_tabIn (tgt := 66) dX9_count_1 (by decide) (by decide) rfl rfl ?_
      refine P_aload0 (pc' := 67) dX9_count_66 rfl ?_
      refine P_getr (pc' := 70) dX9_count_67 rfl fl_X9_9 rfl (l_55 hsh) (t_55 hsh) (q_55_0 hsh) ?_
      refine P_iconst (pc' := 71) dX9_count_70 rfl (v := 1) rfl ?_
      refine P_iload1 (pc' := 72) dX9_count_71 rfl ?_
      refine P_iadd (pc' := 73) dX9_count_72 rfl ?_
      refine P_iald (pc' := 74) dX9_count_73 rfl (l_56 hsh) (t_56 hsh) (j := 4) (by decide) (by decide) (by decide) ?_
      refine P_iret dX9_count_74 ?_
      rw [hI.r (by decide)]
      exact RO.id hI
    · show PW _ _ _ _ _ _ _ _ _ (RO S I T (aR T 5)) _ _ _ _ _
      refine P_iload1 (pc' := 1) dX9_count_0 rfl ?_
      refine P_tabIn (tgt := 66) dX9_count_1 (by decide) (by decide) rfl rfl ?_
      refine P_aload0 (pc' := 67) dX9_count_66 rfl ?_
      refine P_getr (pc' := 70) dX9_count_67 rfl fl_X9_9 rfl (l_55 hsh) (t_55 hsh) (q_55_0 hsh) ?_
      refine P_iconst (pc' := 71) dX9_count_70 rfl (v := 1) rfl ?_
      refine P_iload1 (pc' := 72) dX9_count_71 rfl ?_
      refine P_iadd (pc' := 73) dX9_count_72 rfl ?_
      refine P_iald (pc' := 74) dX9_count_73 rfl (l_56 hsh) (t_56 hsh) (j := 5) (by decide) (by decide) (by decide) ?_
      refine P_iret dX9_count_74 ?_
      rw [hI.r (by decide)]
      exact RO.id hI
    · show PW _ _ _ _ _ _ _ _ _ (RO S I T (aR T 7)) _ _ _ _ _
      refine P_iload1 (pc' := 1) dX9_count_0 rfl ?_
      refine P_tabIn (tgt := 75) dX9_count_1 (by decide) (by decide) rfl rfl ?_
      refine P_aload0 (pc' := 76) dX9_count_75 rfl ?_
      refine P_getr (pc' := 79) dX9_count_76 rfl fl_X9_9 rfl (l_55 hsh) (t_55 hsh) (q_55_0 hsh) ?_
      refine P_bipush (pc' := 81) dX9_count_79 rfl (v := 7) rfl ?_
      refine P_iald (pc' := 82) dX9_count_81 rfl (l_56 hsh) (t_56 hsh) (j := 7) rfl (by decide) (by decide) ?_
      refine P_iret dX9_count_82 ?_
      rw [hI.r (by decide)]
      exact RO.id hI
    · show PW _ _ _ _ _ _ _ _ _ (RO S I T (T 55 32)) _ _ _ _ _
      refine P_iload1 (pc' := 1) dX9_count_0 rfl ?_
      refine P_tabIn (tgt := 83) dX9_count_1 (by decide) (by decide) rfl rfl ?_
      refine P_aload0 (pc' := 84) dX9_count_83 rfl ?_
      refine P_geti (pc' := 87) dX9_count_84 rfl fl_X9_254 rfl (l_55 hsh) (t_55 hsh) ?_
      refine P_iret dX9_count_87 ?_
      rw [e5]
      exact RO.id hI
    · show PW _ _ _ _ _ _ _ _ _ (RO S I T (T 55 6)) _ _ _ _ _
      refine P_iload1 (pc' := 1) dX9_count_0 rfl ?_
      refine P_tabIn (tgt := 88) dX9_count_1 (by decide) (by decide) rfl rfl ?_
      refine P_aload0 (pc' := 89) dX9_count_88 rfl ?_
      refine P_geti (pc' := 92) dX9_count_89 rfl fl_X9_179 rfl (l_55 hsh) (t_55 hsh) ?_
      refine P_iret dX9_count_92 ?_
      rw [e5]
      exact RO.id hI
    · show PW _ _ _ _ _ _ _ _ _ (RO S I T (aR T 0)) _ _ _ _ _
      refine P_iload1 (pc' := 1) dX9_count_0 rfl ?_
      refine P_tabIn (tgt := 93) dX9_count_1 (by decide) (by decide) rfl rfl ?_
      refine P_aload0 (pc' := 94) dX9_count_93 rfl ?_
      refine P_getr (pc' := 97) dX9_count_94 rfl fl_X9_9 rfl (l_55 hsh) (t_55 hsh) (q_55_0 hsh) ?_
      refine P_iconst (pc' := 98) dX9_count_97 rfl (v := 0) rfl ?_
      refine P_iald (pc' := 99) dX9_count_98 rfl (l_56 hsh) (t_56 hsh) (j := 0) rfl (by decide) (by decide) ?_
      refine P_iret dX9_count_99 ?_
      rw [hI.r (by decide)]
      exact RO.id hI
  · have e0 : ∀ i : Nat, i ≤ 8 → ¬ y = nI i := fun i hi z => by rw [z, nI_toInt (by omega)] at hy; omega
    rw [if_neg (show ¬ y = 0 from e0 0 (by decide)), if_neg (show ¬ y = 1 from e0 1 (by decide)), if_neg (show ¬ y = 2 from e0 2 (by decide)), if_neg (show ¬ y = 3 from e0 3 (by decide)), if_neg (show ¬ y = 4 from e0 4 (by decide)), if_neg (show ¬ y = 5 from e0 5 (by decide)), if_neg (show ¬ y = 6 from e0 6 (by decide)), if_neg (show ¬ y = 7 from e0 7 (by decide)), if_neg (show ¬ y = 8 from e0 8 (by decide))]
    refine P_iload1 (pc' := 1) dX9_count_0 rfl ?_
    refine P_tabOut (tgt := 100) dX9_count_1 hy rfl ?_
    refine P_ldc (pc' := 102) dX9_count_100 rfl co_X9_83 ?_
    refine P_iret dX9_count_102 ?_
    exact RO.id hI
theorem r_why {G : GX} {S : Shp} {I T : Mem} {d tn bn : Nat} {tx : Nat → Tx} (hT : KT T tn bn tx) (hsh : SHP S) (hI : RI T I) (y : Int32) (hd : 12 ≤ d) : PM G yX9_why cX9_why 3 (some .int) d 0 0 [.ref 55, .int y] S I (RO S I T (vWhy tn tx y)) := by
  obtain ⟨n, hn, hw, eR, hz, hr, hrd⟩ := hT.n hI
  have h14 := hr.1
  refine PM.of (ls := [some (.ref 55), some (.int y), none]) (by decide) rfl (Nat.le_of_ble_eq_true rfl) rfl ?_
  show PW G RX9 "why" _ _ _ _ _ _ _ _ _ _ _ _
  by_cases hy : wi y 0 2 = 0
  · rw [show vWhy tn tx y = -1000000001 from if_pos hy]
    refine P_iload1 (pc' := 1) dX9_why_0 rfl ?_
    refine P_iconst (pc' := 2) dX9_why_1 rfl (v := 0) rfl ?_
    refine P_iconst (pc' := 3) dX9_why_2 rfl (v := 2) rfl ?_
    refine P_callS3 (pc' := 6) dX9_why_3 rfl lk_X9_75 (c_X9_in (d := 0) y 0 2) (by omega) (Nat.le_of_ble_eq_true rfl) (fun r S' I' hq => ?_)
    obtain ⟨rfl, rfl, rfl⟩ := hq
    refine P_if_ne (tgt := 12) (pc' := 9) dX9_why_6 rfl rfl (fun h6 => ?_) (fun h6 => ?_)
    · exact absurd hy h6
    · refine P_ldc (pc' := 11) dX9_why_9 rfl co_X9_83 ?_
      refine P_iret dX9_why_11 ?_
      exact RO.id hI
  · obtain ⟨j, hj, rfl⟩ := wi_b (m := 2) (by decide) hy
    rw [show vWhy tn tx (nI j) = match lastK tx j tn with | none => -1000000005 | some t => nI t by unfold vWhy; rw [if_neg hy, nI_clamp (by omega)]; rfl]
    cases hl : lastK tx j tn with
    | none =>
      refine P_iload1 (pc' := 1) dX9_why_0 rfl ?_
      refine P_iconst (pc' := 2) dX9_why_1 rfl (v := 0) rfl ?_
      refine P_iconst (pc' := 3) dX9_why_2 rfl (v := 2) rfl ?_
      refine P_callS3 (pc' := 6) dX9_why_3 rfl lk_X9_75 (c_X9_in (d := 0) (nI j) 0 2) (by omega) (Nat.le_of_ble_eq_true rfl) (fun r S' I' hq => ?_)
      obtain ⟨rfl, rfl, rfl⟩ := hq
      refine P_if_ne (tgt := 12) (pc' := 9) dX9_why_6 rfl rfl (fun h6 => ?_) (fun h6 => ?_)
      · refine P_aload0 (pc' := 13) dX9_why_12 rfl ?_
        refine P_iload1 (pc' := 14) dX9_why_13 rfl ?_
        refine P_callV1 (pc' := 17) dX9_why_14 rfl lk_X9_104 (l_55 hsh) (t_55 hsh) (c_X9_counts (d := 1) hsh hr hj) (by omega) (Nat.le_of_ble_eq_true rfl) (fun r S' I' hq => ?_)
        obtain ⟨rfl, rfl, rfl⟩ := hq
        rw [hl]
        refine P_istore2 (pc' := 18) dX9_why_17 rfl (by decide) rfl ?_
        refine P_iload2 (pc' := 19) dX9_why_18 rfl ?_
        refine P_if_ge (tgt := 27) (pc' := 22) dX9_why_19 rfl rfl (fun h19 => ?_) (fun h19 => ?_)
        · exact absurd h19 (by decide)
        · refine P_ldc (pc' := 24) dX9_why_22 rfl co_X9_166 ?_
          refine P_goto (tgt := 28) dX9_why_24 rfl ?_
          refine P_iret dX9_why_28 ?_
          exact RO.id hI
      · exact absurd h6 hy
    | some t =>
      have htt := lastK_lt hl
      refine P_iload1 (pc' := 1) dX9_why_0 rfl ?_
      refine P_iconst (pc' := 2) dX9_why_1 rfl (v := 0) rfl ?_
      refine P_iconst (pc' := 3) dX9_why_2 rfl (v := 2) rfl ?_
      refine P_callS3 (pc' := 6) dX9_why_3 rfl lk_X9_75 (c_X9_in (d := 0) (nI j) 0 2) (by omega) (Nat.le_of_ble_eq_true rfl) (fun r S' I' hq => ?_)
      obtain ⟨rfl, rfl, rfl⟩ := hq
      refine P_if_ne (tgt := 12) (pc' := 9) dX9_why_6 rfl rfl (fun h6 => ?_) (fun h6 => ?_)
      · refine P_aload0 (pc' := 13) dX9_why_12 rfl ?_
        refine P_iload1 (pc' := 14) dX9_why_13 rfl ?_
        refine P_callV1 (pc' := 17) dX9_why_14 rfl lk_X9_104 (l_55 hsh) (t_55 hsh) (c_X9_counts (d := 1) hsh hr hj) (by omega) (Nat.le_of_ble_eq_true rfl) (fun r S' I' hq => ?_)
        obtain ⟨rfl, rfl, rfl⟩ := hq
        rw [hl]
        refine P_istore2 (pc' := 18) dX9_why_17 rfl (by decide) rfl ?_
        refine P_iload2 (pc' := 19) dX9_why_18 rfl ?_
        refine P_if_ge (tgt := 27) (pc' := 22) dX9_why_19 rfl rfl (fun h19 => ?_) (fun h19 => ?_)
        · refine P_iload2 (pc' := 28) dX9_why_27 rfl ?_
          refine P_iret dX9_why_28 ?_
          exact RO.id hI
        · exact absurd (nI_pos' (by omega)) h19
      · exact absurd h6 hy
theorem r_textTold {G : GX} {S : Shp} {I T : Mem} {d tn bn : Nat} {tx : Nat → Tx} (hT : KT T tn bn tx) (hsh : SHP S) (hI : RI T I) (t y : Int32) (hd : 12 ≤ d) : PM G yX9_textTold cX9_textTold 3 (some .int) d 0 0 [.ref 55, .int t, .int y] S I (RO S I T (vTxt tn tx t y)) := by
  obtain ⟨n, hn, hw, eR, hz, hr, hrd⟩ := hT.n hI
  have h14 := hr.1
  have h7 := hr.2.1
  refine PM.of (ls := [some (.ref 55), some (.int t), some (.int y)]) (by decide) rfl (Nat.le_of_ble_eq_true rfl) rfl ?_
  show PW G RX9 "textTold" _ _ _ _ _ _ _ _ _ _ _ _
  by_cases hb : wi t 0 (nI tn - 1) = 0
  · rw [show vTxt tn tx t y = -1000000001 from if_pos hb]
    refine P_iload1 (pc' := 1) dX9_textTold_0 rfl ?_
    refine P_iconst (pc' := 2) dX9_textTold_1 rfl (v := 0) rfl ?_
    refine P_aload0 (pc' := 3) dX9_textTold_2 rfl ?_
    refine P_getr (pc' := 6) dX9_textTold_3 rfl fl_X9_9 rfl (l_55 hsh) (t_55 hsh) (q_55_0 hsh) ?_
    refine P_bipush (pc' := 8) dX9_textTold_6 rfl (v := 7) rfl ?_
    refine P_iald (pc' := 9) dX9_textTold_8 rfl (l_56 hsh) (t_56 hsh) (j := 7) rfl (by decide) (by decide) ?_
    refine P_as h7 ?_
    refine P_iconst (pc' := 10) dX9_textTold_9 rfl (v := 1) rfl ?_
    refine P_isub (pc' := 11) dX9_textTold_10 rfl ?_
    refine P_callS3 (pc' := 14) dX9_textTold_11 rfl lk_X9_75 (c_X9_in (d := 0) t 0 (nI tn - 1)) (by omega) (Nat.le_of_ble_eq_true rfl) (fun r S' I' hq => ?_)
    obtain ⟨rfl, rfl, rfl⟩ := hq
    refine P_if_eq (tgt := 26) (pc' := 17) dX9_textTold_14 rfl rfl (fun h14 => ?_) (fun h14 => ?_)
    · refine P_ldc (pc' := 28) dX9_textTold_26 rfl co_X9_83 ?_
      refine P_iret dX9_textTold_28 ?_
      exact RO.id hI
    · exact absurd hb h14
  obtain ⟨j, hj, rfl⟩ := wi_n (by omega) hb
  obtain ⟨b1, b2, b3, b4, b5, b6⟩ := hr.2.2 j hj
  have ei : (61 : Int32) + 2 * nI j = nI (61 + 2 * j) := by
    have e : (2 : Int32) * nI j = nI (2 * j) := pk_mul 2 j
    rw [e]
    exact nI_add 61 (2 * j)
  have ei2 : nI (61 + 2 * j) + 1 = nI (62 + 2 * j) := (nI_1 _).trans (by rw [show 61 + 2 * j + 1 = 62 + 2 * j by omega])
  have ek : nI (1000 * (tx j).1 + (tx j).2.1) / 1000 = nI (tx j).1 := by
    have e := pk_div (a := 1000 * (tx j).1 + (tx j).2.1) (d := 1000) (by omega) (by decide) (by decide)
    rw [show (1000 * (tx j).1 + (tx j).2.1) / 1000 = (tx j).1 by omega] at e
    exact e
  rw [show vTxt tn tx (nI j) y = if y = 0 then nI (tx j).1 else if y = 1 then nI (tx j).2.2.1 else -1000000001 by unfold vTxt; rw [if_neg hb, nI_clamp (by omega)]]
  by_cases hy : wi y 0 1 = 0
  · rw [if_neg (fun z => by rw [z] at hy; exact absurd hy (by decide)), if_neg (fun z => by rw [z] at hy; exact absurd hy (by decide))]
    refine P_iload1 (pc' := 1) dX9_textTold_0 rfl ?_
    refine P_iconst (pc' := 2) dX9_textTold_1 rfl (v := 0) rfl ?_
    refine P_aload0 (pc' := 3) dX9_textTold_2 rfl ?_
    refine P_getr (pc' := 6) dX9_textTold_3 rfl fl_X9_9 rfl (l_55 hsh) (t_55 hsh) (q_55_0 hsh) ?_
    refine P_bipush (pc' := 8) dX9_textTold_6 rfl (v := 7) rfl ?_
    refine P_iald (pc' := 9) dX9_textTold_8 rfl (l_56 hsh) (t_56 hsh) (j := 7) rfl (by decide) (by decide) ?_
    refine P_as h7 ?_
    refine P_iconst (pc' := 10) dX9_textTold_9 rfl (v := 1) rfl ?_
    refine P_isub (pc' := 11) dX9_textTold_10 rfl ?_
    refine P_callS3 (pc' := 14) dX9_textTold_11 rfl lk_X9_75 (c_X9_in (d := 0) _ 0 (nI tn - 1)) (by omega) (Nat.le_of_ble_eq_true rfl) (fun r S' I' hq => ?_)
    obtain ⟨rfl, rfl, rfl⟩ := hq
    refine P_if_eq (tgt := 26) (pc' := 17) dX9_textTold_14 rfl rfl (fun h14 => ?_) (fun h14 => ?_)
    · exact absurd h14 hb
    · refine P_iload2 (pc' := 18) dX9_textTold_17 rfl ?_
      refine P_iconst (pc' := 19) dX9_textTold_18 rfl (v := 0) rfl ?_
      refine P_iconst (pc' := 20) dX9_textTold_19 rfl (v := 1) rfl ?_
      refine P_callS3 (pc' := 23) dX9_textTold_20 rfl lk_X9_75 (c_X9_in (d := 0) y 0 1) (by omega) (Nat.le_of_ble_eq_true rfl) (fun r S' I' hq => ?_)
      obtain ⟨rfl, rfl, rfl⟩ := hq
      refine P_if_ne (tgt := 29) (pc' := 26) dX9_textTold_23 rfl rfl (fun h23 => ?_) (fun h23 => ?_)
      · exact absurd hy h23
      · refine P_ldc (pc' := 28) dX9_textTold_26 rfl co_X9_83 ?_
        refine P_iret dX9_textTold_28 ?_
        exact RO.id hI
  obtain ⟨i, hi, rfl⟩ := wi_b (m := 1) (by decide) hy
  have key : i = 0 ∨ i = 1 := by omega
  rcases key with rfl | rfl
  · rw [if_pos (by decide)]
    refine P_iload1 (pc' := 1) dX9_textTold_0 rfl ?_
    refine P_iconst (pc' := 2) dX9_textTold_1 rfl (v := 0) rfl ?_
    refine P_aload0 (pc' := 3) dX9_textTold_2 rfl ?_
    refine P_getr (pc' := 6) dX9_textTold_3 rfl fl_X9_9 rfl (l_55 hsh) (t_55 hsh) (q_55_0 hsh) ?_
    refine P_bipush (pc' := 8) dX9_textTold_6 rfl (v := 7) rfl ?_
    refine P_iald (pc' := 9) dX9_textTold_8 rfl (l_56 hsh) (t_56 hsh) (j := 7) rfl (by decide) (by decide) ?_
    refine P_as h7 ?_
    refine P_iconst (pc' := 10) dX9_textTold_9 rfl (v := 1) rfl ?_
    refine P_isub (pc' := 11) dX9_textTold_10 rfl ?_
    refine P_callS3 (pc' := 14) dX9_textTold_11 rfl lk_X9_75 (c_X9_in (d := 0) _ 0 (nI tn - 1)) (by omega) (Nat.le_of_ble_eq_true rfl) (fun r S' I' hq => ?_)
    obtain ⟨rfl, rfl, rfl⟩ := hq
    refine P_if_eq (tgt := 26) (pc' := 17) dX9_textTold_14 rfl rfl (fun h14 => ?_) (fun h14 => ?_)
    · exact absurd h14 hb
    · refine P_iload2 (pc' := 18) dX9_textTold_17 rfl ?_
      refine P_iconst (pc' := 19) dX9_textTold_18 rfl (v := 0) rfl ?_
      refine P_iconst (pc' := 20) dX9_textTold_19 rfl (v := 1) rfl ?_
      refine P_callS3 (pc' := 23) dX9_textTold_20 rfl lk_X9_75 (c_X9_in (d := 0) _ 0 1) (by omega) (Nat.le_of_ble_eq_true rfl) (fun r S' I' hq => ?_)
      obtain ⟨rfl, rfl, rfl⟩ := hq
      refine P_if_ne (tgt := 29) (pc' := 26) dX9_textTold_23 rfl rfl (fun h23 => ?_) (fun h23 => ?_)
      · refine P_iload2 (pc' := 30) dX9_textTold_29 rfl ?_
        refine P_if_ne (tgt := 51) (pc' := 33) dX9_textTold_30 rfl rfl (fun h30 => ?_) (fun h30 => ?_)
        · exact absurd (by decide) h30
        · refine P_aload0 (pc' := 34) dX9_textTold_33 rfl ?_
          refine P_getr (pc' := 37) dX9_textTold_34 rfl fl_X9_9 rfl (l_55 hsh) (t_55 hsh) (q_55_0 hsh) ?_
          refine P_bipush (pc' := 39) dX9_textTold_37 rfl (v := 61) rfl ?_
          refine P_iconst (pc' := 40) dX9_textTold_39 rfl (v := 2) rfl ?_
          refine P_iload1 (pc' := 41) dX9_textTold_40 rfl ?_
          refine P_imul (pc' := 42) dX9_textTold_41 rfl ?_
          refine P_iadd (pc' := 43) dX9_textTold_42 rfl ?_
          refine P_as ei ?_
          refine P_iald (pc' := 44) dX9_textTold_43 rfl (l_56 hsh) (t_56 hsh) (j := 61 + 2 * j) rfl (by omega) (by decide) ?_
          refine P_as b1 ?_
          refine P_sipush (pc' := 47) dX9_textTold_44 rfl (v := 1000) rfl ?_
          refine P_idiv (pc' := 48) dX9_textTold_47 rfl (by decide) ?_
          refine P_as ek ?_
          refine P_goto (tgt := 64) dX9_textTold_48 rfl ?_
          refine P_iret dX9_textTold_64 ?_
          exact RO.id hI
      · exact absurd h23 hy
  · rw [if_neg (by decide), if_pos (by decide)]
    refine P_iload1 (pc' := 1) dX9_textTold_0 rfl ?_
    refine P_iconst (pc' := 2) dX9_textTold_1 rfl (v := 0) rfl ?_
    refine P_aload0 (pc' := 3) dX9_textTold_2 rfl ?_
    refine P_getr (pc' := 6) dX9_textTold_3 rfl fl_X9_9 rfl (l_55 hsh) (t_55 hsh) (q_55_0 hsh) ?_
    refine P_bipush (pc' := 8) dX9_textTold_6 rfl (v := 7) rfl ?_
    refine P_iald (pc' := 9) dX9_textTold_8 rfl (l_56 hsh) (t_56 hsh) (j := 7) rfl (by decide) (by decide) ?_
    refine P_as h7 ?_
    refine P_iconst (pc' := 10) dX9_textTold_9 rfl (v := 1) rfl ?_
    refine P_isub (pc' := 11) dX9_textTold_10 rfl ?_
    refine P_callS3 (pc' := 14) dX9_textTold_11 rfl lk_X9_75 (c_X9_in (d := 0) _ 0 (nI tn - 1)) (by omega) (Nat.le_of_ble_eq_true rfl) (fun r S' I' hq => ?_)
    obtain ⟨rfl, rfl, rfl⟩ := hq
    refine P_if_eq (tgt := 26) (pc' := 17) dX9_textTold_14 rfl rfl (fun h14 => ?_) (fun h14 => ?_)
    · exact absurd h14 hb
    · refine P_iload2 (pc' := 18) dX9_textTold_17 rfl ?_
      refine P_iconst (pc' := 19) dX9_textTold_18 rfl (v := 0) rfl ?_
      refine P_iconst (pc' := 20) dX9_textTold_19 rfl (v := 1) rfl ?_
      refine P_callS3 (pc' := 23) dX9_textTold_20 rfl lk_X9_75 (c_X9_in (d := 0) _ 0 1) (by omega) (Nat.le_of_ble_eq_true rfl) (fun r S' I' hq => ?_)
      obtain ⟨rfl, rfl, rfl⟩ := hq
      refine P_if_ne (tgt := 29) (pc' := 26) dX9_textTold_23 rfl rfl (fun h23 => ?_) (fun h23 => ?_)
      · refine P_iload2 (pc' := 30) dX9_textTold_29 rfl ?_
        refine P_if_ne (tgt := 51) (pc' := 33) dX9_textTold_30 rfl rfl (fun h30 => ?_) (fun h30 => ?_)
        · refine P_aload0 (pc' := 52) dX9_textTold_51 rfl ?_
          refine P_getr (pc' := 55) dX9_textTold_52 rfl fl_X9_9 rfl (l_55 hsh) (t_55 hsh) (q_55_0 hsh) ?_
          refine P_bipush (pc' := 57) dX9_textTold_55 rfl (v := 61) rfl ?_
          refine P_iconst (pc' := 58) dX9_textTold_57 rfl (v := 2) rfl ?_
          refine P_iload1 (pc' := 59) dX9_textTold_58 rfl ?_
          refine P_imul (pc' := 60) dX9_textTold_59 rfl ?_
          refine P_iadd (pc' := 61) dX9_textTold_60 rfl ?_
          refine P_as ei ?_
          refine P_iconst (pc' := 62) dX9_textTold_61 rfl (v := 1) rfl ?_
          refine P_iadd (pc' := 63) dX9_textTold_62 rfl ?_
          refine P_as ei2 ?_
          refine P_iald (pc' := 64) dX9_textTold_63 rfl (l_56 hsh) (t_56 hsh) (j := 62 + 2 * j) rfl (by omega) (by decide) ?_
          refine P_as b2 ?_
          refine P_iret dX9_textTold_64 ?_
          exact RO.id hI
        · exact absurd h30 (by decide)
      · exact absurd h23 hy
theorem r_fee {G : GX} {S : Shp} {I T : Mem} {d tn bn : Nat} {tx : Nat → Tx} (hT : KT T tn bn tx) (hsh : SHP S) (hI : RI T I) (hd : 12 ≤ d) : PM G yX9_fee cX9_fee 2 (some .int) d 0 0 [.ref 55] S I (RO S I T (vFee tn tx (aR T))) := by
  obtain ⟨n, hn, hw, eR, hz, hr, hrd⟩ := hT.n hI
  have h14 := hr.1
  have f1 : I 56 6 = aR T 6 := hI.r (by decide)
  have f2 : ∀ v, u2 I 67 0 v 56 2 = aR T 2 := fun v => by rw [u2_a (by decide)]; exact hI.r (by decide)
  have hr2 : ∀ v y, RT (u2 (u2 I 67 0 v) 67 1 y) tn tx := fun v y => hr.mv (by rw [u2_a (by decide), u2_a (by decide)]) (fun i _ => by rw [u2_a (by decide), u2_a (by decide)])
  refine PM.of (ls := [some (.ref 55), none]) (by decide) rfl (Nat.le_of_ble_eq_true rfl) rfl ?_
  show PW G RX9 "fee" _ _ _ _ _ _ _ _ _ _ _ _
  unfold vFee
  cases hl : lastK tx 1 tn with
  | none =>
    refine P_aload0 (pc' := 1) dX9_fee_0 rfl ?_
    refine P_iconst (pc' := 2) dX9_fee_1 rfl (v := 1) rfl ?_
    refine P_callV1 (pc' := 5) dX9_fee_2 rfl lk_X9_104 (l_55 hsh) (t_55 hsh) (c_X9_counts (d := 1) (k := 1) hsh hr (by decide)) (by omega) (Nat.le_of_ble_eq_true rfl) (fun r S' I' hq => ?_)
    obtain ⟨rfl, rfl, rfl⟩ := hq
    rw [hl]
    refine P_istore1 (pc' := 6) dX9_fee_5 rfl (by decide) rfl ?_
    refine P_aload0 (pc' := 7) dX9_fee_6 rfl ?_
    refine P_getr (pc' := 10) dX9_fee_7 rfl fl_X9_45 rfl (l_55 hsh) (t_55 hsh) (q_55_22 hsh) ?_
    refine P_iconst (pc' := 11) dX9_fee_10 rfl (v := 0) rfl ?_
    refine P_aload0 (pc' := 12) dX9_fee_11 rfl ?_
    refine P_getr (pc' := 15) dX9_fee_12 rfl fl_X9_9 rfl (l_55 hsh) (t_55 hsh) (q_55_0 hsh) ?_
    refine P_bipush (pc' := 17) dX9_fee_15 rfl (v := 6) rfl ?_
    refine P_iald (pc' := 18) dX9_fee_17 rfl (l_56 hsh) (t_56 hsh) (j := 6) rfl (by decide) (by decide) ?_
    refine P_as f1 ?_
    refine P_iast (pc' := 19) dX9_fee_18 rfl (l_67 hsh) (t_67 hsh) (j := 0) rfl (by decide) (by decide) ?_
    refine P_aload0 (pc' := 20) dX9_fee_19 rfl ?_
    refine P_getr (pc' := 23) dX9_fee_20 rfl fl_X9_45 rfl (l_55 hsh) (t_55 hsh) (q_55_22 hsh) ?_
    refine P_iconst (pc' := 24) dX9_fee_23 rfl (v := 1) rfl ?_
    refine P_aload0 (pc' := 25) dX9_fee_24 rfl ?_
    refine P_getr (pc' := 28) dX9_fee_25 rfl fl_X9_9 rfl (l_55 hsh) (t_55 hsh) (q_55_0 hsh) ?_
    refine P_iconst (pc' := 29) dX9_fee_28 rfl (v := 2) rfl ?_
    refine P_iald (pc' := 30) dX9_fee_29 rfl (l_56 hsh) (t_56 hsh) (j := 2) rfl (by decide) (by decide) ?_
    refine P_as (f2 _) ?_
    refine P_iast (pc' := 31) dX9_fee_30 rfl (l_67 hsh) (t_67 hsh) (j := 1) rfl (by decide) (by decide) ?_
    refine P_iload1 (pc' := 32) dX9_fee_31 rfl ?_
    refine P_if_ge (tgt := 45) (pc' := 35) dX9_fee_32 rfl rfl (fun h32 => ?_) (fun h32 => ?_)
    · exact absurd h32 (by decide)
    · refine P_aload0 (pc' := 36) dX9_fee_35 rfl ?_
      refine P_getr (pc' := 39) dX9_fee_36 rfl fl_X9_9 rfl (l_55 hsh) (t_55 hsh) (q_55_0 hsh) ?_
      refine P_bipush (pc' := 41) dX9_fee_39 rfl (v := 6) rfl ?_
      refine P_iald (pc' := 42) dX9_fee_41 rfl (l_56 hsh) (t_56 hsh) (j := 6) rfl (by decide) (by decide) ?_
      refine P_as (y := aR T 6) (by rw [u2_a (by decide), u2_a (by decide)]; exact f1) ?_
      refine P_goto (tgt := 50) dX9_fee_42 rfl ?_
      refine P_iret dX9_fee_50 ?_
      exact RO.pi hI (by rw [← eR]; exact PsR.scr (fun x h1 h2 => by rw [u2_row h2, u2_row h2]))
  | some t =>
    have htt := lastK_lt hl
    have kp := hT.2.1.2 t htt.1
    refine P_aload0 (pc' := 1) dX9_fee_0 rfl ?_
    refine P_iconst (pc' := 2) dX9_fee_1 rfl (v := 1) rfl ?_
    refine P_callV1 (pc' := 5) dX9_fee_2 rfl lk_X9_104 (l_55 hsh) (t_55 hsh) (c_X9_counts (d := 1) (k := 1) hsh hr (by decide)) (by omega) (Nat.le_of_ble_eq_true rfl) (fun r S' I' hq => ?_)
    obtain ⟨rfl, rfl, rfl⟩ := hq
    rw [hl]
    refine P_istore1 (pc' := 6) dX9_fee_5 rfl (by decide) rfl ?_
    refine P_aload0 (pc' := 7) dX9_fee_6 rfl ?_
    refine P_getr (pc' := 10) dX9_fee_7 rfl fl_X9_45 rfl (l_55 hsh) (t_55 hsh) (q_55_22 hsh) ?_
    refine P_iconst (pc' := 11) dX9_fee_10 rfl (v := 0) rfl ?_
    refine P_aload0 (pc' := 12) dX9_fee_11 rfl ?_
    refine P_getr (pc' := 15) dX9_fee_12 rfl fl_X9_9 rfl (l_55 hsh) (t_55 hsh) (q_55_0 hsh) ?_
    refine P_bipush (pc' := 17) dX9_fee_15 rfl (v := 6) rfl ?_
    refine P_iald (pc' := 18) dX9_fee_17 rfl (l_56 hsh) (t_56 hsh) (j := 6) rfl (by decide) (by decide) ?_
    refine P_as f1 ?_
    refine P_iast (pc' := 19) dX9_fee_18 rfl (l_67 hsh) (t_67 hsh) (j := 0) rfl (by decide) (by decide) ?_
    refine P_aload0 (pc' := 20) dX9_fee_19 rfl ?_
    refine P_getr (pc' := 23) dX9_fee_20 rfl fl_X9_45 rfl (l_55 hsh) (t_55 hsh) (q_55_22 hsh) ?_
    refine P_iconst (pc' := 24) dX9_fee_23 rfl (v := 1) rfl ?_
    refine P_aload0 (pc' := 25) dX9_fee_24 rfl ?_
    refine P_getr (pc' := 28) dX9_fee_25 rfl fl_X9_9 rfl (l_55 hsh) (t_55 hsh) (q_55_0 hsh) ?_
    refine P_iconst (pc' := 29) dX9_fee_28 rfl (v := 2) rfl ?_
    refine P_iald (pc' := 30) dX9_fee_29 rfl (l_56 hsh) (t_56 hsh) (j := 2) rfl (by decide) (by decide) ?_
    refine P_as (f2 _) ?_
    refine P_iast (pc' := 31) dX9_fee_30 rfl (l_67 hsh) (t_67 hsh) (j := 1) rfl (by decide) (by decide) ?_
    refine P_iload1 (pc' := 32) dX9_fee_31 rfl ?_
    refine P_if_ge (tgt := 45) (pc' := 35) dX9_fee_32 rfl rfl (fun h32 => ?_) (fun h32 => ?_)
    · refine P_aload0 (pc' := 46) dX9_fee_45 rfl ?_
      refine P_iload1 (pc' := 47) dX9_fee_46 rfl ?_
      refine P_callV1 (pc' := 50) dX9_fee_47 rfl lk_X9_107 (l_55 hsh) (t_55 hsh) (c_X9_worksOut (d := 2) hsh (hr2 _ _) htt.1 (by omega)) (by omega) (Nat.le_of_ble_eq_true rfl) (fun r S' I' hq => ?_)
      obtain ⟨rfl, rfl, rfl⟩ := hq
      refine P_iret dX9_fee_50 ?_
      rw [kp.wo, u2_k (by decide), u2_s, u2_s, kp.ev2 (by rw [htt.2]; decide) _ _ _ 0]
      exact RO.pi hI (by rw [← eR]; exact PsR.scr (fun x h1 h2 => by rw [sR_n h1, u2_row h2, u2_row h2]))
    · exact absurd (nI_pos' (by omega)) h32
theorem r_fine {G : GX} {S : Shp} {I T : Mem} {d tn bn : Nat} {tx : Nat → Tx} (hT : KT T tn bn tx) (hsh : SHP S) (hI : RI T I) (b : Int32) (hd : 12 ≤ d) : PM G yX9_fine cX9_fine 3 (some .int) d 0 0 [.ref 55, .int b] S I (RO S I T (vFin tn tx (aR T) b)) := by
  obtain ⟨n, hn, hw, eR, hz, hr, hrd⟩ := hT.n hI
  have h14 := hr.1
  have hr2 : ∀ v y, RT (u2 (u2 I 67 0 v) 67 1 y) tn tx := fun v y => hr.mv (by rw [u2_a (by decide), u2_a (by decide)]) (fun i _ => by rw [u2_a (by decide), u2_a (by decide)])
  refine PM.of (ls := [some (.ref 55), some (.int b), none]) (by decide) rfl (Nat.le_of_ble_eq_true rfl) rfl ?_
  show PW G RX9 "fine" _ _ _ _ _ _ _ _ _ _ _ _
  by_cases hb : wi b 0 (nI n - 1) = 0
  · rw [show vFin tn tx (aR T) b = -1000000001 by unfold vFin; rw [hw.1, if_pos hb]]
    refine P_aload0 (pc' := 1) dX9_fine_0 rfl ?_
    refine P_iload1 (pc' := 2) dX9_fine_1 rfl ?_
    refine P_callV1 (pc' := 5) dX9_fine_2 rfl lk_X9_93 (l_55 hsh) (t_55 hsh) (c_X9_isBeggar (d := 1) b hsh hz (by omega)) (by omega) (Nat.le_of_ble_eq_true rfl) (fun r S' I' hq => ?_)
    obtain ⟨rfl, rfl, rfl⟩ := hq
    refine P_if_ne (tgt := 11) (pc' := 8) dX9_fine_5 rfl rfl (fun h5 => ?_) (fun h5 => ?_)
    · exact absurd hb h5
    · refine P_ldc (pc' := 10) dX9_fine_8 rfl co_X9_83 ?_
      refine P_iret dX9_fine_10 ?_
      exact RO.id hI
  obtain ⟨j, hj, rfl⟩ := wi_n (by omega) hb
  have f1 : I 56 (16 + 5 * j + 3) = aR T (19 + 5 * j) := (hI.r (by omega)).trans (by rw [show 16 + 5 * j + 3 = 19 + 5 * j by omega])
  have f2 : ∀ v, u2 I 67 0 v 56 (16 + 5 * j + 4) = aR T (20 + 5 * j) := fun v => by rw [u2_a (by decide)]; exact (hI.r (by omega)).trans (by rw [show 16 + 5 * j + 4 = 20 + 5 * j by omega])
  have ev : vFin tn tx (aR T) (nI j) = match lastK tx 2 tn with
      | none => aR T (19 + 5 * j)
      | some t => evT (tx t) (aR T (19 + 5 * j)) (aR T (20 + 5 * j)) 0 := by unfold vFin; rw [hw.1, if_neg hb, nI_clamp (by omega)]; rfl
  rw [ev]
  cases hl : lastK tx 2 tn with
  | none =>
    refine P_aload0 (pc' := 1) dX9_fine_0 rfl ?_
    refine P_iload1 (pc' := 2) dX9_fine_1 rfl ?_
    refine P_callV1 (pc' := 5) dX9_fine_2 rfl lk_X9_93 (l_55 hsh) (t_55 hsh) (c_X9_isBeggar (d := 1) _ hsh hz (by omega)) (by omega) (Nat.le_of_ble_eq_true rfl) (fun r S' I' hq => ?_)
    obtain ⟨rfl, rfl, rfl⟩ := hq
    refine P_if_ne (tgt := 11) (pc' := 8) dX9_fine_5 rfl rfl (fun h5 => ?_) (fun h5 => ?_)
    · refine P_aload0 (pc' := 12) dX9_fine_11 rfl ?_
      refine P_iconst (pc' := 13) dX9_fine_12 rfl (v := 2) rfl ?_
      refine P_callV1 (pc' := 16) dX9_fine_13 rfl lk_X9_104 (l_55 hsh) (t_55 hsh) (c_X9_counts (d := 1) (k := 2) hsh hr (by decide)) (by omega) (Nat.le_of_ble_eq_true rfl) (fun r S' I' hq => ?_)
      obtain ⟨rfl, rfl, rfl⟩ := hq
      rw [hl]
      refine P_istore2 (pc' := 17) dX9_fine_16 rfl (by decide) rfl ?_
      refine P_aload0 (pc' := 18) dX9_fine_17 rfl ?_
      refine P_getr (pc' := 21) dX9_fine_18 rfl fl_X9_45 rfl (l_55 hsh) (t_55 hsh) (q_55_22 hsh) ?_
      refine P_iconst (pc' := 22) dX9_fine_21 rfl (v := 0) rfl ?_
      refine P_aload0 (pc' := 23) dX9_fine_22 rfl ?_
      refine P_iload1 (pc' := 24) dX9_fine_23 rfl ?_
      refine P_iconst (pc' := 25) dX9_fine_24 rfl (v := 3) rfl ?_
      refine P_callV2 (pc' := 28) dX9_fine_25 rfl lk_X9_89 (l_55 hsh) (t_55 hsh) (c_X9_of (d := 0) (k := 3) hsh (by omega) (by omega)) (by omega) (Nat.le_of_ble_eq_true rfl) (fun r S' I' hq => ?_)
      obtain ⟨rfl, rfl, rfl⟩ := hq
      refine P_as f1 ?_
      refine P_iast (pc' := 29) dX9_fine_28 rfl (l_67 hsh) (t_67 hsh) (j := 0) rfl (by decide) (by decide) ?_
      refine P_aload0 (pc' := 30) dX9_fine_29 rfl ?_
      refine P_getr (pc' := 33) dX9_fine_30 rfl fl_X9_45 rfl (l_55 hsh) (t_55 hsh) (q_55_22 hsh) ?_
      refine P_iconst (pc' := 34) dX9_fine_33 rfl (v := 1) rfl ?_
      refine P_aload0 (pc' := 35) dX9_fine_34 rfl ?_
      refine P_iload1 (pc' := 36) dX9_fine_35 rfl ?_
      refine P_iconst (pc' := 37) dX9_fine_36 rfl (v := 4) rfl ?_
      refine P_callV2 (pc' := 40) dX9_fine_37 rfl lk_X9_89 (l_55 hsh) (t_55 hsh) (c_X9_of (d := 0) (k := 4) hsh (by omega) (by omega)) (by omega) (Nat.le_of_ble_eq_true rfl) (fun r S' I' hq => ?_)
      obtain ⟨rfl, rfl, rfl⟩ := hq
      refine P_as (f2 _) ?_
      refine P_iast (pc' := 41) dX9_fine_40 rfl (l_67 hsh) (t_67 hsh) (j := 1) rfl (by decide) (by decide) ?_
      refine P_iload2 (pc' := 42) dX9_fine_41 rfl ?_
      refine P_if_ge (tgt := 54) (pc' := 45) dX9_fine_42 rfl rfl (fun h42 => ?_) (fun h42 => ?_)
      · exact absurd h42 (by decide)
      · refine P_aload0 (pc' := 46) dX9_fine_45 rfl ?_
        refine P_iload1 (pc' := 47) dX9_fine_46 rfl ?_
        refine P_iconst (pc' := 48) dX9_fine_47 rfl (v := 3) rfl ?_
        refine P_callV2 (pc' := 51) dX9_fine_48 rfl lk_X9_89 (l_55 hsh) (t_55 hsh) (c_X9_of (d := 0) (k := 3) hsh (by omega) (by omega)) (by omega) (Nat.le_of_ble_eq_true rfl) (fun r S' I' hq => ?_)
        obtain ⟨rfl, rfl, rfl⟩ := hq
        refine P_as (y := aR T (19 + 5 * j)) (by rw [u2_a (by decide), u2_a (by decide)]; exact f1) ?_
        refine P_goto (tgt := 59) dX9_fine_51 rfl ?_
        refine P_iret dX9_fine_59 ?_
        exact RO.pi hI (by rw [← eR]; exact PsR.scr (fun x h1 h2 => by rw [u2_row h2, u2_row h2]))
    · exact absurd h5 hb
  | some t =>
    have htt := lastK_lt hl
    have kp := hT.2.1.2 t htt.1
    refine P_aload0 (pc' := 1) dX9_fine_0 rfl ?_
    refine P_iload1 (pc' := 2) dX9_fine_1 rfl ?_
    refine P_callV1 (pc' := 5) dX9_fine_2 rfl lk_X9_93 (l_55 hsh) (t_55 hsh) (c_X9_isBeggar (d := 1) _ hsh hz (by omega)) (by omega) (Nat.le_of_ble_eq_true rfl) (fun r S' I' hq => ?_)
    obtain ⟨rfl, rfl, rfl⟩ := hq
    refine P_if_ne (tgt := 11) (pc' := 8) dX9_fine_5 rfl rfl (fun h5 => ?_) (fun h5 => ?_)
    · refine P_aload0 (pc' := 12) dX9_fine_11 rfl ?_
      refine P_iconst (pc' := 13) dX9_fine_12 rfl (v := 2) rfl ?_
      refine P_callV1 (pc' := 16) dX9_fine_13 rfl lk_X9_104 (l_55 hsh) (t_55 hsh) (c_X9_counts (d := 1) (k := 2) hsh hr (by decide)) (by omega) (Nat.le_of_ble_eq_true rfl) (fun r S' I' hq => ?_)
      obtain ⟨rfl, rfl, rfl⟩ := hq
      rw [hl]
      refine P_istore2 (pc' := 17) dX9_fine_16 rfl (by decide) rfl ?_
      refine P_aload0 (pc' := 18) dX9_fine_17 rfl ?_
      refine P_getr (pc' := 21) dX9_fine_18 rfl fl_X9_45 rfl (l_55 hsh) (t_55 hsh) (q_55_22 hsh) ?_
      refine P_iconst (pc' := 22) dX9_fine_21 rfl (v := 0) rfl ?_
      refine P_aload0 (pc' := 23) dX9_fine_22 rfl ?_
      refine P_iload1 (pc' := 24) dX9_fine_23 rfl ?_
      refine P_iconst (pc' := 25) dX9_fine_24 rfl (v := 3) rfl ?_
      refine P_callV2 (pc' := 28) dX9_fine_25 rfl lk_X9_89 (l_55 hsh) (t_55 hsh) (c_X9_of (d := 0) (k := 3) hsh (by omega) (by omega)) (by omega) (Nat.le_of_ble_eq_true rfl) (fun r S' I' hq => ?_)
      obtain ⟨rfl, rfl, rfl⟩ := hq
      refine P_as f1 ?_
      refine P_iast (pc' := 29) dX9_fine_28 rfl (l_67 hsh) (t_67 hsh) (j := 0) rfl (by decide) (by decide) ?_
      refine P_aload0 (pc' := 30) dX9_fine_29 rfl ?_
      refine P_getr (pc' := 33) dX9_fine_30 rfl fl_X9_45 rfl (l_55 hsh) (t_55 hsh) (q_55_22 hsh) ?_
      refine P_iconst (pc' := 34) dX9_fine_33 rfl (v := 1) rfl ?_
      refine P_aload0 (pc' := 35) dX9_fine_34 rfl ?_
      refine P_iload1 (pc' := 36) dX9_fine_35 rfl ?_
      refine P_iconst (pc' := 37) dX9_fine_36 rfl (v := 4) rfl ?_
      refine P_callV2 (pc' := 40) dX9_fine_37 rfl lk_X9_89 (l_55 hsh) (t_55 hsh) (c_X9_of (d := 0) (k := 4) hsh (by omega) (by omega)) (by omega) (Nat.le_of_ble_eq_true rfl) (fun r S' I' hq => ?_)
      obtain ⟨rfl, rfl, rfl⟩ := hq
      refine P_as (f2 _) ?_
      refine P_iast (pc' := 41) dX9_fine_40 rfl (l_67 hsh) (t_67 hsh) (j := 1) rfl (by decide) (by decide) ?_
      refine P_iload2 (pc' := 42) dX9_fine_41 rfl ?_
      refine P_if_ge (tgt := 54) (pc' := 45) dX9_fine_42 rfl rfl (fun h42 => ?_) (fun h42 => ?_)
      · refine P_aload0 (pc' := 55) dX9_fine_54 rfl ?_
        refine P_iload2 (pc' := 56) dX9_fine_55 rfl ?_
        refine P_callV1 (pc' := 59) dX9_fine_56 rfl lk_X9_107 (l_55 hsh) (t_55 hsh) (c_X9_worksOut (d := 2) hsh (hr2 _ _) htt.1 (by omega)) (by omega) (Nat.le_of_ble_eq_true rfl) (fun r S' I' hq => ?_)
        obtain ⟨rfl, rfl, rfl⟩ := hq
        refine P_iret dX9_fine_59 ?_
        rw [kp.wo, u2_k (by decide), u2_s, u2_s, kp.ev2 (by rw [htt.2]; decide) _ _ _ 0]
        exact RO.pi hI (by rw [← eR]; exact PsR.scr (fun x h1 h2 => by rw [sR_n h1, u2_row h2, u2_row h2]))
      · exact absurd (nI_pos' (by omega)) h42
    · exact absurd h5 hb
theorem r_tell {G : GX} {S : Shp} {I T : Mem} {d tn bn : Nat} {tx : Nat → Tx} (hT : KT T tn bn tx) (hsh : SHP S) (hI : RI T I) (v : Int32) (hd : 12 ≤ d) : PM G yX9_tell cX9_tell 2 (some .int) d 0 0 [.ref 55, .int v] S I (RO S I (uTel T v) (vTel T)) := by
  obtain ⟨m, hm, em⟩ := hT.2.2.2.2.2.2.1
  have e5 : I 55 32 = nI m := by rw [hI 55 (by decide) (by decide)]; exact em
  refine PM.of (ls := [some (.ref 55), some (.int v)]) (by decide) rfl (Nat.le_of_ble_eq_true rfl) rfl ?_
  show PW G RX9 "tell" _ _ _ _ _ _ _ _ _ _ _ _
  unfold uTel vTel
  rw [em, nI_clamp (by omega)]
  refine P_aload0 (pc' := 1) dX9_tell_0 rfl ?_
  refine P_geti (pc' := 4) dX9_tell_1 rfl fl_X9_254 rfl (l_55 hsh) (t_55 hsh) ?_
  refine P_as e5 ?_
  refine P_bipush (pc' := 6) dX9_tell_4 rfl (v := 60) rfl ?_
  refine P_icmp_ne (tgt := 12) (pc' := 9) dX9_tell_6 rfl rfl (fun h6 => ?_) (fun h6 => ?_)
  · refine P_aload0 (pc' := 13) dX9_tell_12 rfl ?_
    refine P_getr (pc' := 16) dX9_tell_13 rfl fl_X9_72 rfl (l_55 hsh) (t_55 hsh) (q_55_31 hsh) ?_
    refine P_aload0 (pc' := 17) dX9_tell_16 rfl ?_
    refine P_geti (pc' := 20) dX9_tell_17 rfl fl_X9_254 rfl (l_55 hsh) (t_55 hsh) ?_
    refine P_as e5 ?_
    refine P_iload1 (pc' := 21) dX9_tell_20 rfl ?_
    refine P_iast (pc' := 22) dX9_tell_21 rfl (l_76 hsh) (t_76 hsh) (j := m) rfl (by have : m ≠ 60 := fun z => h6 (by rw [z]; rfl); omega) (by decide) ?_
    refine P_aload0 (pc' := 23) dX9_tell_22 rfl ?_
    refine P_dup (pc' := 24) dX9_tell_23 rfl rfl ?_
    refine P_geti (pc' := 27) dX9_tell_24 rfl fl_X9_254 rfl (l_55 hsh) (t_55 hsh) ?_
    refine P_iconst (pc' := 28) dX9_tell_27 rfl (v := 1) rfl ?_
    refine P_iadd (pc' := 29) dX9_tell_28 rfl ?_
    refine P_as (y := nI m + 1) (by rw [u2_a (by decide), e5]) ?_
    refine P_puti (pc' := 32) dX9_tell_29 rfl fl_X9_254 rfl (l_55 hsh) (t_55 hsh) ?_
    refine P_aload0 (pc' := 33) dX9_tell_32 rfl ?_
    refine P_geti (pc' := 36) dX9_tell_33 rfl fl_X9_254 rfl (l_55 hsh) (t_55 hsh) ?_
    refine P_as (u2_s _ _ _ _) ?_
    refine P_iret dX9_tell_36 ?_
    rw [if_neg h6, if_neg h6]
    exact ⟨rfl, rfl, RE.rf ((hI.u _ _ _).u _ _ _), fun x hx => by rw [u2_row (by omega), u2_row (by omega)]⟩
  · refine P_ldc (pc' := 11) dX9_tell_9 rfl co_X9_84 ?_
    refine P_iret dX9_tell_11 ?_
    rw [if_pos h6, if_pos h6]
    exact RO.id hI
theorem r_trim {G : GX} {S : Shp} {I T : Mem} {d tn bn : Nat} {tx : Nat → Tx} (hT : KT T tn bn tx) (hsh : SHP S) (hI : RI T I) (v : Int32) (hd : 12 ≤ d) : PM G yX9_trim cX9_trim 2 (some .int) d 0 0 [.ref 55, .int v] S I (RO S I (uTri T v) (vTri T v)) := by
  have e5 : I 55 6 = T 55 6 := by rw [hI 55 (by decide) (by decide)]
  refine PM.of (ls := [some (.ref 55), some (.int v)]) (by decide) rfl (Nat.le_of_ble_eq_true rfl) rfl ?_
  show PW G RX9 "trim" _ _ _ _ _ _ _ _ _ _ _ _
  unfold uTri vTri
  refine P_iload1 (pc' := 1) dX9_trim_0 rfl ?_
  refine P_iconst (pc' := 2) dX9_trim_1 rfl (v := 0) rfl ?_
  refine P_aload0 (pc' := 3) dX9_trim_2 rfl ?_
  refine P_geti (pc' := 6) dX9_trim_3 rfl fl_X9_179 rfl (l_55 hsh) (t_55 hsh) ?_
  refine P_as e5 ?_
  refine P_callS3 (pc' := 9) dX9_trim_6 rfl lk_X9_75 (c_X9_in (d := 0) v 0 _) (by omega) (Nat.le_of_ble_eq_true rfl) (fun r S' I' hq => ?_)
  obtain ⟨rfl, rfl, rfl⟩ := hq
  refine P_if_ne (tgt := 15) (pc' := 12) dX9_trim_9 rfl rfl (fun h9 => ?_) (fun h9 => ?_)
  · refine P_aload0 (pc' := 16) dX9_trim_15 rfl ?_
    refine P_iload1 (pc' := 17) dX9_trim_16 rfl ?_
    refine P_puti (pc' := 20) dX9_trim_17 rfl fl_X9_179 rfl (l_55 hsh) (t_55 hsh) ?_
    refine P_iload1 (pc' := 21) dX9_trim_20 rfl ?_
    refine P_iret dX9_trim_21 ?_
    rw [if_neg h9, if_neg h9]
    exact ⟨rfl, rfl, RE.rf (hI.u _ _ _), fun x hx => by rw [u2_row (by omega)]⟩
  · refine P_ldc (pc' := 14) dX9_trim_12 rfl co_X9_83 ?_
    refine P_iret dX9_trim_14 ?_
    rw [if_pos h9, if_pos h9]
    exact RO.id hI
theorem r_keep {G : GX} {S : Shp} {I T : Mem} {d tn bn : Nat} {tx : Nat → Tx} (hT : KT T tn bn tx) (hsh : SHP S) (hI : RI T I) (hd : 12 ≤ d) : PM G yX9_keep cX9_keep 1 (some .int) d 0 0 [.ref 55] S I (RO S I (u2 (cpR T 56 57 1433) 55 3 1) (aR T 1)) := by
  refine PM.of (ls := [some (.ref 55)]) (by decide) rfl (Nat.le_of_ble_eq_true rfl) rfl ?_
  show PW G RX9 "keep" _ _ _ _ _ _ _ _ _ _ _ _
  refine P_aload0 (pc' := 1) dX9_keep_0 rfl ?_
  refine P_getr (pc' := 4) dX9_keep_1 rfl fl_X9_9 rfl (l_55 hsh) (t_55 hsh) (q_55_0 hsh) ?_
  refine P_aload0 (pc' := 5) dX9_keep_4 rfl ?_
  refine P_getr (pc' := 8) dX9_keep_5 rfl fl_X9_13 rfl (l_55 hsh) (t_55 hsh) (q_55_1 hsh) ?_
  refine P_callS2 (pc' := 11) dX9_keep_8 rfl lk_X9_261 (c_X9_copyAll (d := 1) (l_56 hsh) (t_56 hsh) (l_57 hsh) (t_57 hsh) (by decide)) (by omega) (Nat.le_of_ble_eq_true rfl) (fun r S' I' hq => ?_)
  obtain ⟨rfl, rfl, rfl⟩ := hq
  refine P_aload0 (pc' := 12) dX9_keep_11 rfl ?_
  refine P_iconst (pc' := 13) dX9_keep_12 rfl (v := 1) rfl ?_
  refine P_putz (pc' := 16) dX9_keep_13 rfl fl_X9_257 rfl (l_55 hsh) (t_55 hsh) (Or.inr rfl) ?_
  refine P_aload0 (pc' := 17) dX9_keep_16 rfl ?_
  refine P_getr (pc' := 20) dX9_keep_17 rfl fl_X9_9 rfl (l_55 hsh) (t_55 hsh) (q_55_0 hsh) ?_
  refine P_iconst (pc' := 21) dX9_keep_20 rfl (v := 1) rfl ?_
  refine P_iald (pc' := 22) dX9_keep_21 rfl (l_56 hsh) (t_56 hsh) (j := 1) rfl (by decide) (by decide) ?_
  refine P_as (y := aR T 1) (by rw [u2_a (by decide), cpR_o (by decide)]; exact hI.r (by decide)) ?_
  refine P_iret dX9_keep_22 ?_
  exact ⟨rfl, rfl, RE.rf ((hI.c 1433 (by decide) (by decide) (by decide) (by decide)).u _ _ _), fun x hx => by rw [u2_row (by omega), cpR_o (by omega)]⟩
theorem r_back {G : GX} {S : Shp} {I T : Mem} {d tn bn : Nat} {tx : Nat → Tx} (hT : KT T tn bn tx) (hsh : SHP S) (hI : RI T I) (hd : 12 ≤ d) : PM G yX9_back cX9_back 1 (some .int) d 0 0 [.ref 55] S I (RO S I (if T 55 3 = 0 then T else cpR T 57 56 1433) (if T 55 3 = 0 then -1000000002 else aB T 1)) := by
  have e5 : I 55 3 = T 55 3 := by rw [hI 55 (by decide) (by decide)]
  refine PM.of (ls := [some (.ref 55)]) (by decide) rfl (Nat.le_of_ble_eq_true rfl) rfl ?_
  show PW G RX9 "back" _ _ _ _ _ _ _ _ _ _ _ _
  refine P_aload0 (pc' := 1) dX9_back_0 rfl ?_
  refine P_geti (pc' := 4) dX9_back_1 rfl fl_X9_257 rfl (l_55 hsh) (t_55 hsh) ?_
  refine P_as e5 ?_
  refine P_if_ne (tgt := 10) (pc' := 7) dX9_back_4 rfl rfl (fun h4 => ?_) (fun h4 => ?_)
  · refine P_aload0 (pc' := 11) dX9_back_10 rfl ?_
    refine P_getr (pc' := 14) dX9_back_11 rfl fl_X9_13 rfl (l_55 hsh) (t_55 hsh) (q_55_1 hsh) ?_
    refine P_aload0 (pc' := 15) dX9_back_14 rfl ?_
    refine P_getr (pc' := 18) dX9_back_15 rfl fl_X9_9 rfl (l_55 hsh) (t_55 hsh) (q_55_0 hsh) ?_
    refine P_callS2 (pc' := 21) dX9_back_18 rfl lk_X9_261 (c_X9_copyAll (d := 1) (l_57 hsh) (t_57 hsh) (l_56 hsh) (t_56 hsh) (by decide)) (by omega) (Nat.le_of_ble_eq_true rfl) (fun r S' I' hq => ?_)
    obtain ⟨rfl, rfl, rfl⟩ := hq
    refine P_aload0 (pc' := 22) dX9_back_21 rfl ?_
    refine P_getr (pc' := 25) dX9_back_22 rfl fl_X9_9 rfl (l_55 hsh) (t_55 hsh) (q_55_0 hsh) ?_
    refine P_iconst (pc' := 26) dX9_back_25 rfl (v := 1) rfl ?_
    refine P_iald (pc' := 27) dX9_back_26 rfl (l_56 hsh) (t_56 hsh) (j := 1) rfl (by decide) (by decide) ?_
    refine P_as (y := aB T 1) (by rw [cpR_t (by decide), hI 57 (by decide) (by decide)]; rfl) ?_
    refine P_iret dX9_back_27 ?_
    rw [if_neg h4, if_neg h4]
    exact ⟨rfl, rfl, RE.rf (hI.c 1433 (by decide) (by decide) (by decide) (by decide)), fun x hx => cpR_o (by omega)⟩
  · refine P_ldc (pc' := 9) dX9_back_7 rfl co_X9_253 ?_
    refine P_iret dX9_back_9 ?_
    rw [if_pos h4, if_pos h4]
    exact RO.id hI

