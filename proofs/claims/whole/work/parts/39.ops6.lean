theorem cpR_t {T : Mem} {f t n j : Nat} (h : j < n) : cpR T f t n t j = T f j := by
  unfold cpR
  rw [sR_s, if_pos h]
theorem cpR_o {T : Mem} {f t n x : Nat} (h : x ≠ t) : cpR T f t n x = T x := sR_n h
theorem K.keep {S : Shp} {I J T : Mem} {tn bn : Nat} {tx : Nat → Tx} (h : K S I T tn bn tx) (h15 : aC 15 J = aR T) (hJ : ∀ x, (x < 15 ∨ 21 < x) → x ≠ 0 → J x = I x) (h3 : J 0 3 = 1) (h11 : J 0 11 = I 0 11) : K S J (u2 (cpR T 56 57 1433) 55 3 1) tn tn tx := by
  obtain ⟨⟨a1, ⟨a2, a3⟩, a4, -, a7, a8, a9, a10, a11⟩, c1, c2, c3, c5, ⟨al, c6⟩, c7, c8, c9, c10⟩ := h
  have u : ∀ x, x ≠ 55 → x ≠ 57 → u2 (cpR T 56 57 1433) 55 3 1 x = T x := fun x h1 h2 => by rw [u2_row h1, cpR_o h2]
  have u5 : ∀ k, k ≠ 3 → u2 (cpR T 56 57 1433) 55 3 1 55 k = T 55 k := fun k hk => by rw [u2_k hk, cpR_o (by decide)]
  have u3 : u2 (cpR T 56 57 1433) 55 3 1 55 3 = 1 := u2_s _ _ _ _
  have u7 : ∀ i, i < 1433 → u2 (cpR T 56 57 1433) 55 3 1 57 i = T 56 i := fun i hi => by rw [u2_a (by decide), cpR_t hi]
  generalize u2 (cpR T 56 57 1433) 55 3 1 = U at u u5 u3 u7
  have eR : aR U = aR T := aR_o (u 56 (by decide) (by decide))
  have eB : aB U = aR T := by
    funext i
    unfold aB aR
    by_cases hi : i < 61
    · rw [if_pos hi, if_pos hi, u7 i (by omega)]
    · rw [if_neg hi, if_neg hi]
  refine ⟨⟨by rw [eR]; exact a1, ⟨a2.mv (by rw [u 56 (by decide) (by decide)]) (fun i _ => by rw [u 56 (by decide) (by decide)]), a3⟩, Nat.le_refl _, ⟨Or.inr u3, fun _ => ⟨by rw [eB]; exact a1, a2.mv2 (by rw [sR_s, u7 7 (by decide)]) (fun i _ hi => by rw [sR_s, u7 i hi])⟩⟩, a7.mv (u 68 (by decide) (by decide)) (u 69 (by decide) (by decide)) (u 70 (by decide) (by decide)), a8.mv (u 71 (by decide) (by decide)) (u 72 (by decide) (by decide)), by rw [u5 32 (by decide)]; exact a9, by rw [u5 6 (by decide)]; exact a10, ?_⟩, c1, ?_, ⟨by rw [h3, u3], fun _ => by rw [h15, eB]⟩, c5.mv (fun x h1 _ => hJ x (by omega) (by omega)), ⟨al, c6.mv (hJ 28 (by omega) (by omega)) (fun x h1 _ => hJ x (by omega) (by omega))⟩, c7.mv (fun x h1 h2 => hJ x (by omega) (by omega)) (u 68 (by decide) (by decide)) (u 69 (by decide) (by decide)) (u 70 (by decide) (by decide)), c8.mv (fun x h1 h2 => hJ x (by omega) (by omega)) (u 71 (by decide) (by decide)) (u 72 (by decide) (by decide)) (u 73 (by decide) (by decide)) (u 74 (by decide) (by decide)), c9.mv h11 (hJ 31 (by omega) (by omega)) (u5 32 (by decide)) (u 76 (by decide) (by decide)), c10.mv (by rw [hJ 23 (by omega) (by omega)]) (hJ 24 (by omega) (by omega)) (u5 6 (by decide)) (u 60 (by decide) (by decide))⟩
  · unfold KY
    rw [u 61 (by decide) (by decide), u 62 (by decide) (by decide)]
    exact a11
  · rw [eR, ← c2]
    exact aC_out (fun x h1 h2 => hJ x (by omega) (by omega))
theorem K.back {S : Shp} {I J T : Mem} {tn bn : Nat} {tx : Nat → Tx} (h : K S I T tn bn tx) (hi : T 55 3 = 1) (h1 : aC 1 J = aB T) (hJ : ∀ x, (x < 1 ∨ 7 < x) → J x = I x) : K S J (cpR T 57 56 1433) bn bn tx := by
  obtain ⟨⟨a1, ⟨a2, a3⟩, a4, ⟨a5, a6⟩, a7, a8, a9, a10, a11⟩, c1, c2, ⟨c3, c4⟩, c5, ⟨al, c6⟩, c7, c8, c9, c10⟩ := h
  have u : ∀ x, x ≠ 56 → cpR T 57 56 1433 x = T x := fun x h1 => cpR_o h1
  have u6 : ∀ i, i < 1433 → cpR T 57 56 1433 56 i = T 57 i := fun i hi => cpR_t hi
  generalize cpR T 57 56 1433 = U at u u6
  have eR : aR U = aB T := by
    funext i
    unfold aB aR
    by_cases hi : i < 61
    · rw [if_pos hi, if_pos hi, u6 i (by omega)]
    · rw [if_neg hi, if_neg hi]
  have eB : aB U = aB T := by unfold aB; rw [u 57 (by decide)]
  have u5 := u 55 (by decide)
  have hc5 : KTx S I bn tx := ⟨Nat.le_trans a4 c5.1, fun t ht => c5.2 t (by omega)⟩
  refine ⟨⟨by rw [eR]; exact (a6 hi).1, ⟨(a6 hi).2.mv2 (by rw [u6 7 (by decide), sR_s]) (fun i _ hi => by rw [u6 i hi, sR_s]), fun t ht => a3 t (by omega)⟩, Nat.le_refl _, ⟨by rw [u5]; exact a5, fun _ => ⟨by rw [eB]; exact (a6 hi).1, (a6 hi).2.mv (by rw [sR_s, sR_s, u 57 (by decide)]) (fun i _ => by rw [sR_s, sR_s, u 57 (by decide)])⟩⟩, a7.mv (u 68 (by decide)) (u 69 (by decide)) (u 70 (by decide)), a8.mv (u 71 (by decide)) (u 72 (by decide)), by rw [u5]; exact a9, by rw [u5]; exact a10, ?_⟩, c1, by rw [h1, eR], ⟨by rw [hJ 0 (by omega), u5]; exact c3, fun _ => ?_⟩, hc5.mv (fun x h1 _ => hJ x (by omega)), ⟨al, c6.mv (hJ 28 (by omega)) (fun x h1 _ => hJ x (by omega))⟩, c7.mv (fun x h1 h2 => hJ x (by omega)) (u 68 (by decide)) (u 69 (by decide)) (u 70 (by decide)), c8.mv (fun x h1 h2 => hJ x (by omega)) (u 71 (by decide)) (u 72 (by decide)) (u 73 (by decide)) (u 74 (by decide)), c9.mv (by rw [hJ 0 (by omega)]) (hJ 31 (by omega)) (by rw [u5]) (u 76 (by decide)), c10.mv (by rw [hJ 23 (by omega)]) (hJ 24 (by omega)) (by rw [u5]) (u 60 (by decide))⟩
  · unfold KY
    rw [u 61 (by decide), u 62 (by decide)]
    exact a11
  · rw [eB, ← c4 hi]
    exact aC_out (fun x h1 h2 => hJ x (by omega))
theorem x_keep {G : GX} {S : Shp} {I T : Mem} {d tn bn : Nat} {tx : Nat → Tx} (hK : K S I T tn bn tx) (hd : 12 ≤ d) : PM G yX8_keep cX8_keep 1 (some .int) d 0 0 [.ref 0] S I (CO I (u2 (cpR T 56 57 1433) 55 3 1) tn tn tx (aR T 1)) := by
  obtain ⟨n, hn, hw, hA, hz, ht⟩ := hK.n
  have hsh := hK.2.1
  refine PM.of (ls := [some (.ref 0)]) (by decide) rfl (Nat.le_of_ble_eq_true rfl) rfl ?_
  show PW G RX8 "keep" _ _ _ _ _ _ _ _ _ _ _ _
  refine P_aload0 (pc' := 1) dX8_keep_0 rfl ?_
  refine P_getr (pc' := 4) dX8_keep_1 rfl fl_X8_19 rfl (l_0 hsh) (t_0 hsh) (q_0_2 hsh) ?_
  refine P_aload0 (pc' := 5) dX8_keep_4 rfl ?_
  refine P_getr (pc' := 8) dX8_keep_5 rfl fl_X8_10 rfl (l_0 hsh) (t_0 hsh) (q_0_0 hsh) ?_
  refine P_callV1 (pc' := 11) dX8_keep_8 rfl lk_X8_295 (l_15 hsh) (t_15 hsh) (c_X5_become (d := 3) hsh (Or.inr (Or.inr rfl)) (Or.inl rfl) (by decide) (by rw [hK.sc.2.2.2.2.1]; exact hw.2.2.1) (by omega)) (by omega) (Nat.le_of_ble_eq_true rfl) (fun r S' I' hq => ?_)
  obtain ⟨rfl, rfl, hJ, hF⟩ := hq
  refine P_aload0 (pc' := 12) dX8_keep_11 rfl ?_
  refine P_iconst (pc' := 13) dX8_keep_12 rfl (v := 1) rfl ?_
  refine P_putz (pc' := 16) dX8_keep_13 rfl fl_X8_22 rfl (l_0 hsh) (t_0 hsh) (Or.inr rfl) ?_
  refine P_aload0 (pc' := 17) dX8_keep_16 rfl ?_
  refine P_getr (pc' := 20) dX8_keep_17 rfl fl_X8_19 rfl (l_0 hsh) (t_0 hsh) (q_0_2 hsh) ?_
  refine P_geti (pc' := 23) dX8_keep_20 rfl fl_X8_82 rfl (l_15 hsh) (t_15 hsh) ?_
  refine P_iret dX8_keep_23 ?_
  have e1 : u2 I' 0 3 1 15 6 = aR T 1 := by
    rw [u2_a (by decide), ← hA, ← hJ]
    rfl
  rw [e1]
  refine ⟨rfl, hK.keep ?_ (fun x hx h0 => by rw [u2_row h0]; exact hF x (by omega)) (u2_s _ _ _ _) (by rw [u2_k (by decide), hF 0 (by omega)]), fun x h1 h2 => by rw [u2_row (by omega)]; exact hF x (by omega)⟩
  rw [aC_out (fun x h1 h2 => u2_row (by omega)), hJ, hA]
theorem x_back {G : GX} {S : Shp} {I T : Mem} {d tn bn : Nat} {tx : Nat → Tx} (hK : K S I T tn bn tx) (hd : 12 ≤ d) : PM G yX8_back cX8_back 1 (some .int) d 0 0 [.ref 0] S I (CO I (if T 55 3 = 0 then T else cpR T 57 56 1433) (if T 55 3 = 0 then tn else bn) bn tx (if T 55 3 = 0 then -1000000002 else aB T 1)) := by
  obtain ⟨n, hn, hw, hA, hz, ht⟩ := hK.n
  have hsh := hK.2.1
  have e3 : I 0 3 = T 55 3 := hK.2.2.2.1.1
  refine PM.of (ls := [some (.ref 0)]) (by decide) rfl (Nat.le_of_ble_eq_true rfl) rfl ?_
  show PW G RX8 "back" _ _ _ _ _ _ _ _ _ _ _ _
  by_cases h3 : T 55 3 = 0
  · rw [if_pos h3, if_pos h3, if_pos h3]
    refine P_aload0 (pc' := 1) dX8_back_0 rfl ?_
    refine P_geti (pc' := 4) dX8_back_1 rfl fl_X8_22 rfl (l_0 hsh) (t_0 hsh) ?_
    refine P_as e3 ?_
    refine P_if_ne (tgt := 11) (pc' := 7) dX8_back_4 rfl rfl (fun h4 => ?_) (fun h4 => ?_)
    · exact absurd h3 h4
    · refine P_ldcw (pc' := 10) dX8_back_7 rfl co_X8_294 ?_
      refine P_iret dX8_back_10 ?_
      exact CO.id hK
  · have h31 : T 55 3 = 1 := hK.1.2.2.2.1.1.resolve_left h3
    have e15 := hK.2.2.2.1.2 h31
    obtain ⟨hN, -⟩ := hK.1.2.2.2.1.2 h31
    obtain ⟨m, hm, hwm⟩ := hN.1
    rw [if_neg h3, if_neg h3, if_neg h3]
    refine P_aload0 (pc' := 1) dX8_back_0 rfl ?_
    refine P_geti (pc' := 4) dX8_back_1 rfl fl_X8_22 rfl (l_0 hsh) (t_0 hsh) ?_
    refine P_as e3 ?_
    refine P_if_ne (tgt := 11) (pc' := 7) dX8_back_4 rfl rfl (fun h4 => ?_) (fun h4 => ?_)
    · refine P_aload0 (pc' := 12) dX8_back_11 rfl ?_
      refine P_getr (pc' := 15) dX8_back_12 rfl fl_X8_10 rfl (l_0 hsh) (t_0 hsh) (q_0_0 hsh) ?_
      refine P_aload0 (pc' := 16) dX8_back_15 rfl ?_
      refine P_getr (pc' := 19) dX8_back_16 rfl fl_X8_19 rfl (l_0 hsh) (t_0 hsh) (q_0_2 hsh) ?_
      refine P_callV1 (pc' := 22) dX8_back_19 rfl lk_X8_295 (l_1 hsh) (t_1 hsh) (c_X5_become (d := 3) hsh (Or.inl rfl) (Or.inr (Or.inr rfl)) (by decide) (by have e : aC 15 I 4 = I 15 8 := rfl; rw [← e, e15]; exact hwm.2.2.1) (by omega)) (by omega) (Nat.le_of_ble_eq_true rfl) (fun r S' I' hq => ?_)
      obtain ⟨rfl, rfl, hJ, hF⟩ := hq
      refine P_aload0 (pc' := 23) dX8_back_22 rfl ?_
      refine P_getr (pc' := 26) dX8_back_23 rfl fl_X8_10 rfl (l_0 hsh) (t_0 hsh) (q_0_0 hsh) ?_
      refine P_geti (pc' := 29) dX8_back_26 rfl fl_X8_82 rfl (l_1 hsh) (t_1 hsh) ?_
      refine P_iret dX8_back_29 ?_
      have e1 : I' 1 6 = aB T 1 := by
        have e : aC 1 I' 1 = I' 1 6 := rfl
        rw [← e, hJ, e15]
      rw [e1]
      exact ⟨rfl, hK.back h31 (by rw [hJ, e15]) (fun x hx => hF x (by omega)), fun x h1 h2 => hF x (by omega)⟩
    · exact absurd h4 h3
def vTel (T : Mem) : Int32 := if T 55 32 = 60 then -1000000003 else T 55 32 + 1
def uTel (T : Mem) (v : Int32) : Mem := if T 55 32 = 60 then T else u2 (u2 T 76 (T 55 32).toNatClampNeg v) 55 32 (T 55 32 + 1)
theorem x_tell {G : GX} {S : Shp} {I T : Mem} {d tn bn : Nat} {tx : Nat → Tx} (hK : K S I T tn bn tx) (v : Int32) (hd : 12 ≤ d) : PM G yX8_tell cX8_tell 2 (some .int) d 0 0 [.ref 0, .int v] S I (CO I (uTel T v) tn bn tx (vTel T)) := by
  have hsh := hK.2.1
  obtain ⟨m, hm, em⟩ := hK.1.2.2.2.2.2.2.1
  obtain ⟨c9, c9'⟩ := hK.2.2.2.2.2.2.2.2.1
  refine PM.of (ls := [some (.ref 0), some (.int v)]) (by decide) rfl (Nat.le_of_ble_eq_true rfl) rfl ?_
  show PW G RX8 "tell" _ _ _ _ _ _ _ _ _ _ _ _
  have e60 : T 55 32 = 60 ↔ m = 60 := by
    rw [em]
    exact ⟨fun z => (nI_eq (b := 60) (by omega) (by decide)).mp z, fun z => by rw [z]; rfl⟩
  refine P_aload0 (pc' := 1) dX8_tell_0 rfl ?_
  refine P_geti (pc' := 4) dX8_tell_1 rfl fl_X8_67 rfl (l_0 hsh) (t_0 hsh) ?_
  refine P_as (c9.trans em) ?_
  refine P_bipush (pc' := 6) dX8_tell_4 rfl (v := 60) rfl ?_
  refine P_icmp_lt (tgt := 12) (pc' := 9) dX8_tell_6 rfl rfl (fun h6 => ?_) (fun h6 => ?_)
  · refine P_aload0 (pc' := 13) dX8_tell_12 rfl ?_
    refine P_getr (pc' := 16) dX8_tell_13 rfl fl_X8_63 rfl (l_0 hsh) (t_0 hsh) (q_0_10 hsh) ?_
    refine P_aload0 (pc' := 17) dX8_tell_16 rfl ?_
    refine P_geti (pc' := 20) dX8_tell_17 rfl fl_X8_67 rfl (l_0 hsh) (t_0 hsh) ?_
    refine P_as (c9.trans em) ?_
    refine P_iload1 (pc' := 21) dX8_tell_20 rfl ?_
    refine P_iast (pc' := 22) dX8_tell_21 rfl (l_31 hsh) (t_31 hsh) (j := m) rfl (g0 (a := m) (b := 60) (Int32.not_le.mpr h6) (by omega) (by decide)) (by decide) ?_
    refine P_aload0 (pc' := 23) dX8_tell_22 rfl ?_
    refine P_dup (pc' := 24) dX8_tell_23 rfl rfl ?_
    refine P_geti (pc' := 27) dX8_tell_24 rfl fl_X8_67 rfl (l_0 hsh) (t_0 hsh) ?_
    refine P_iconst (pc' := 28) dX8_tell_27 rfl (v := 1) rfl ?_
    refine P_iadd (pc' := 29) dX8_tell_28 rfl ?_
    refine P_as (y := nI (m + 1)) (by rw [u2_a (by decide), c9, em, nI_1]) ?_
    refine P_puti (pc' := 32) dX8_tell_29 rfl fl_X8_67 rfl (l_0 hsh) (t_0 hsh) ?_
    refine P_aload0 (pc' := 33) dX8_tell_32 rfl ?_
    refine P_geti (pc' := 36) dX8_tell_33 rfl fl_X8_67 rfl (l_0 hsh) (t_0 hsh) ?_
    refine P_as (u2_s _ _ _ _) ?_
    refine P_iret dX8_tell_36 ?_
    have hm60 : m < 60 := g0 (a := m) (b := 60) (Int32.not_le.mpr h6) (by omega) (by decide)
    have hne : ¬ T 55 32 = 60 := fun z => by have := e60.mp z; omega
    rw [show uTel T v = u2 (u2 T 76 m v) 55 32 (nI (m + 1)) by unfold uTel; rw [if_neg hne, em, nI_clamp (by omega), nI_1], show vTel T = nI (m + 1) by unfold vTel; rw [if_neg hne, em, nI_1]]
    refine ⟨rfl, hK.wait (fun x h1 h2 => by rw [u2_row h1, u2_row h2]) (by rw [u2_k (by decide), u2_a (by decide)]) (fun x h1 h2 => by rw [u2_row h1, u2_row h2]) (fun k hk => by rw [u2_k hk, u2_a (by decide)]) ⟨m + 1, by omega, u2_s _ _ _ _⟩ ⟨by rw [u2_s, u2_s], fun k hk => ?_⟩, fun x h1 h2 => by rw [u2_row (by omega), u2_row (by omega)]⟩
    rw [u2_a (a := 0) (x := 31) (by decide), u2_a (a := 55) (x := 76) (by decide)]
    by_cases q : k = m
    · rw [q, u2_s, u2_s]
    · rw [u2_k q, u2_k q]
      exact c9' k hk
  · refine P_ldc (pc' := 11) dX8_tell_9 rfl co_X8_85 ?_
    refine P_iret dX8_tell_11 ?_
    have hm60 : m = 60 := by
      have : 60 ≤ m := g2 (a := m) (b := 60) (Int32.not_lt.mp h6) (by omega) (by decide)
      omega
    rw [show uTel T v = T from if_pos (e60.mpr hm60), show vTel T = -1000000003 from if_pos (e60.mpr hm60)]
    exact CO.id hK
def vTri (T : Mem) (v : Int32) : Int32 := if wi v 0 (T 55 6) = 0 then -1000000001 else v
def uTri (T : Mem) (v : Int32) : Mem := if wi v 0 (T 55 6) = 0 then T else u2 T 55 6 v
theorem x_trim {G : GX} {S : Shp} {I T : Mem} {d tn bn : Nat} {tx : Nat → Tx} (hK : K S I T tn bn tx) (v : Int32) (hd : 12 ≤ d) : PM G yX8_trim cX8_trim 2 (some .int) d 0 0 [.ref 0, .int v] S I (CO I (uTri T v) tn bn tx (vTri T v)) := by
  have hsh := hK.2.1
  obtain ⟨p, hp, ep⟩ := hK.1.2.2.2.2.2.2.2.1
  obtain ⟨c10, c10'⟩ := hK.2.2.2.2.2.2.2.2.2
  refine PM.of (ls := [some (.ref 0), some (.int v)]) (by decide) rfl (Nat.le_of_ble_eq_true rfl) rfl ?_
  show PW G RX8 "trim" _ _ _ _ _ _ _ _ _ _ _ _
  unfold uTri vTri
  rw [ep]
  refine P_iload1 (pc' := 1) dX8_trim_0 rfl ?_
  refine P_iconst (pc' := 2) dX8_trim_1 rfl (v := 0) rfl ?_
  refine P_aload0 (pc' := 3) dX8_trim_2 rfl ?_
  refine P_getr (pc' := 6) dX8_trim_3 rfl fl_X8_37 rfl (l_0 hsh) (t_0 hsh) (q_0_5 hsh) ?_
  refine P_geti (pc' := 9) dX8_trim_6 rfl fl_X8_217 rfl (l_23 hsh) (t_23 hsh) ?_
  refine P_as (c10.trans ep) ?_
  refine P_callS3 (pc' := 12) dX8_trim_9 rfl lk_X8_77 (c_X8_wi (d := 0) v 0 (nI p)) (by omega) (Nat.le_of_ble_eq_true rfl) (fun r S' I' hq => ?_)
  obtain ⟨rfl, rfl, rfl⟩ := hq
  refine P_if_ne (tgt := 18) (pc' := 15) dX8_trim_12 rfl rfl (fun h12 => ?_) (fun h12 => ?_)
  · obtain ⟨j, hj, rfl⟩ := wi_b (by omega) h12
    refine P_aload0 (pc' := 19) dX8_trim_18 rfl ?_
    refine P_getr (pc' := 22) dX8_trim_19 rfl fl_X8_37 rfl (l_0 hsh) (t_0 hsh) (q_0_5 hsh) ?_
    refine P_iload1 (pc' := 23) dX8_trim_22 rfl ?_
    refine P_puti (pc' := 26) dX8_trim_23 rfl fl_X8_217 rfl (l_23 hsh) (t_23 hsh) ?_
    refine P_iload1 (pc' := 27) dX8_trim_26 rfl ?_
    refine P_iret dX8_trim_27 ?_
    rw [if_neg h12, if_neg h12]
    refine ⟨rfl, hK.tape (fun x h1 h2 _ _ => u2_row h1) (fun x h1 h2 => u2_row h1) (fun k hk => u2_k hk) ⟨j, by omega, u2_s _ _ _ _⟩ ⟨by rw [u2_s, u2_s], fun k hk => ?_⟩, fun x h1 h2 => u2_row (by omega)⟩
    rw [u2_a (by decide), u2_a (by decide)]
    exact c10' k hk
  · refine P_ldc (pc' := 17) dX8_trim_15 rfl co_X8_81 ?_
    refine P_iret dX8_trim_17 ?_
    rw [if_pos h12, if_pos h12]
    exact CO.id hK

