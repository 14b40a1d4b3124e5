/-! what is only thought, in the reference -/
def TK (I0 : Mem) (A : Nat → Int32) (M : Mem) : Prop := aR M = A ∧ (∀ j, j < 61 → M 59 j = I0 56 j) ∧ (∀ x, x ≠ 56 → x ≠ 59 → x ≠ 66 → x ≠ 67 → M x = I0 x) ∧ ∀ i, 61 ≤ i → M 56 i = I0 56 i
theorem TK.start (I : Mem) : TK I (aR I) (cpR I 56 59 61) := ⟨aR_o (cpR_o (by decide)), fun j hj => cpR_t hj, fun x _ h _ _ => cpR_o h, fun i _ => by rw [cpR_o (by decide)]⟩
theorem TK.ps {I0 M J : Mem} {A B : Nat → Int32} (h : TK I0 A M) (hp : PsR M B J) : TK I0 B J := by
  obtain ⟨a, b, c, d⟩ := h
  refine ⟨hp.1, fun j hj => ?_, fun x h1 h2 h3 h4 => ?_, fun i hi => ?_⟩
  · rw [hp.2.1 59 (by decide) (by decide) (by decide)]; exact b j hj
  · rw [hp.2.1 x h1 h3 h4]; exact c x h1 h2 h3 h4
  · rw [hp.2.2 i hi]; exact d i hi
theorem TK.back {I0 M : Mem} {A : Nat → Int32} (h : TK I0 A M) : TK I0 (aR I0) (cpR M 59 56 61) := by
  obtain ⟨a, b, c, d⟩ := h
  refine ⟨?_, fun j hj => ?_, fun x h1 h2 h3 h4 => ?_, fun i hi => ?_⟩
  · funext i
    unfold aR
    by_cases hi : i < 61
    · rw [if_pos hi, if_pos hi, cpR_t hi]; exact b i hi
    · rw [if_neg hi, if_neg hi]
  · rw [cpR_o (by decide)]; exact b j hj
  · rw [cpR_o h1]; exact c x h1 h2 h3 h4
  · show sR M 56 (fun j => if j < 61 then M 59 j else M 56 j) 56 i = _
    rw [sR_s, if_neg (by omega)]; exact d i hi
theorem TK.fin {S : Shp} {T I M : Mem} {v : Int32} (h : TK I (aR I) M) (hI : RI T I) : RO S I T v (some (.int v)) S M := by
  obtain ⟨a, b, c, d⟩ := h
  refine ⟨rfl, rfl, ⟨fun x h1 h2 h3 _ h5 _ _ _ h9 h10 _ => ?_, fun i hi => ?_, ?_, ?_, ?_⟩, fun x hx => c x (by omega) (by omega) (by omega) (by omega)⟩
  · rw [c x h3 h5 h9 h10]; exact hI x (by omega) h2
  · by_cases q : i < 61
    · rw [aR_rd M q, a, ← aR_rd I q, hI 56 (by decide) (by decide)]
    · rw [d i (by omega), hI 56 (by decide) (by decide)]
  · rw [c 55 (by decide) (by decide) (by decide) (by decide), hI 55 (by decide) (by decide)]
  · rw [c 55 (by decide) (by decide) (by decide) (by decide), hI 55 (by decide) (by decide)]
  · rw [c 55 (by decide) (by decide) (by decide) (by decide), hI 55 (by decide) (by decide)]
theorem TK.rt {I0 M : Mem} {A : Nat → Int32} {tn : Nat} {tx : Nat → Tx} (h : TK I0 A M) (h7 : A 7 = aR I0 7) (hr : RT I0 tn tx) : RT M tn tx := hr.mv (by rw [aR_rd M (by decide), h.1, h7, ← aR_rd I0 (by decide)]) h.2.2.2
theorem TK.z {I0 M : Mem} {A : Nat → Int32} {n : Nat} (h : TK I0 A M) (hw : WA A n) : M 56 1 = nI n := by rw [aR_rd M (by decide), h.1]; exact hw.1
theorem wi_o {j n : Nat} (hj : j < 2 ^ 31) (hn : n ≤ 2000) (h : n ≤ j) : wi (nI j) 0 (nI n - 1) = 0 := by
  refine Classical.byContradiction (fun z => ?_)
  obtain ⟨k, hk, e⟩ := wi_n hn z
  have := (nI_eq hj (by omega)).mp e
  omega
theorem r_behind {G : GX} {S : Shp} {I T : Mem} {d tn bn : Nat} {tx : Nat → Tx} (hT : KT T tn bn tx) (hsh : SHP S) (hI : RI T I) (v y : Int32) (hd : 12 ≤ d) : PM G yX9_behind cX9_behind 4 (some .int) d 0 0 [.ref 55, .int v, .int y] S I (RO S I T (vBeh (alX tn tx) (aR T) v y)) := by
  obtain ⟨n, hn, hw, eR, hz, hr, hrd⟩ := hT.n hI
  have hwI : WA (aR I) n := by rw [eR]; exact hw
  have e2 : (2 : Int32) + nI n = nI (2 + n) := nI_add 2 n
  refine PM.of (ls := [some (.ref 55), some (.int v), some (.int y), none]) (by decide) rfl (Nat.le_of_ble_eq_true rfl) rfl ?_
  show PW G RX9 "behind" _ _ _ _ _ _ _ _ _ _ _ _
  by_cases hv : wi v 0 100 = 0
  · rw [show vBeh (alX tn tx) (aR T) v y = -1000000001 from if_pos hv]
    refine P_iload1 (pc' := 1) dX9_behind_0 rfl ?_
    refine P_iconst (pc' := 2) dX9_behind_1 rfl (v := 0) rfl ?_
    refine P_bipush (pc' := 4) dX9_behind_2 rfl (v := 100) rfl ?_
    refine P_callS3 (pc' := 7) dX9_behind_4 rfl lk_X9_75 (c_X9_in (d := 0) v 0 100) (by omega) (Nat.le_of_ble_eq_true rfl) (fun r S' I' hq => ?_)
    obtain ⟨rfl, rfl, rfl⟩ := hq
    refine P_if_eq (tgt := 29) (pc' := 10) dX9_behind_7 rfl rfl (fun h7 => ?_) (fun h7 => ?_)
    · refine P_ldc (pc' := 31) dX9_behind_29 rfl co_X9_83 ?_
      refine P_iret dX9_behind_31 ?_
      exact RO.id hI
    · exact absurd hv h7
  by_cases hy : wi y 0 (nI (2 + n)) = 0
  · rw [show vBeh (alX tn tx) (aR T) v y = -1000000001 by unfold vBeh; rw [if_neg hv, hw.1, e2, if_pos hy]]
    refine P_iload1 (pc' := 1) dX9_behind_0 rfl ?_
    refine P_iconst (pc' := 2) dX9_behind_1 rfl (v := 0) rfl ?_
    refine P_bipush (pc' := 4) dX9_behind_2 rfl (v := 100) rfl ?_
    refine P_callS3 (pc' := 7) dX9_behind_4 rfl lk_X9_75 (c_X9_in (d := 0) v 0 100) (by omega) (Nat.le_of_ble_eq_true rfl) (fun r S' I' hq => ?_)
    obtain ⟨rfl, rfl, rfl⟩ := hq
    refine P_if_eq (tgt := 29) (pc' := 10) dX9_behind_7 rfl rfl (fun h7 => ?_) (fun h7 => ?_)
    · exact absurd h7 hv
    · refine P_iload2 (pc' := 11) dX9_behind_10 rfl ?_
      refine P_if_lt (tgt := 29) (pc' := 14) dX9_behind_11 rfl rfl (fun h11 => ?_) (fun h11 => ?_)
      · refine P_ldc (pc' := 31) dX9_behind_29 rfl co_X9_83 ?_
        refine P_iret dX9_behind_31 ?_
        exact RO.id hI
      · obtain ⟨i, hi, rfl⟩ := nI_of h11
        have hi2 : 2 + n < i := by
          rcases Nat.lt_or_ge (2 + n) i with q | q
          · exact q
          · exfalso
            rw [show nI (2 + n) = nI (2 + n + 1) - 1 from (nI_pred _).symm, wi_y (by omega) (by omega)] at hy
            exact absurd hy (by decide)
        refine P_iload2 (pc' := 15) dX9_behind_14 rfl ?_
        refine P_iconst (pc' := 16) dX9_behind_15 rfl (v := 2) rfl ?_
        refine P_icmp_le (tgt := 32) (pc' := 19) dX9_behind_16 rfl rfl (fun h16 => ?_) (fun h16 => ?_)
        · exact absurd h16 (nI_ge (a := 2) (by omega) hi)
        · refine P_aload0 (pc' := 20) dX9_behind_19 rfl ?_
          refine P_iload2 (pc' := 21) dX9_behind_20 rfl ?_
          refine P_iconst (pc' := 22) dX9_behind_21 rfl (v := 3) rfl ?_
          refine P_isub (pc' := 23) dX9_behind_22 rfl ?_
          refine P_as (y := nI (i - 3)) (pk_sub (a := i) (b := 3) (by omega)) ?_
          refine P_callV1 (pc' := 26) dX9_behind_23 rfl lk_X9_93 (l_55 hsh) (t_55 hsh) (c_X9_isBeggar (d := 1) _ hsh hz (by omega)) (by omega) (Nat.le_of_ble_eq_true rfl) (fun r S' I' hq => ?_)
          obtain ⟨rfl, rfl, rfl⟩ := hq
          refine P_if_ne (tgt := 32) (pc' := 29) dX9_behind_26 rfl rfl (fun h26 => ?_) (fun h26 => ?_)
          · exact absurd (wi_o (by omega) (by omega) (by omega)) h26
          · refine P_ldc (pc' := 31) dX9_behind_29 rfl co_X9_83 ?_
            refine P_iret dX9_behind_31 ?_
            exact RO.id hI
  obtain ⟨j, hj, rfl⟩ := wi_b (m := 100) (by decide) hv
  obtain ⟨i, hi, rfl⟩ := wi_b (by omega) hy
  rw [vBeh_y hv hy hw.1 (by omega) hj (by omega)]
  have fin : ∀ (M : Mem) (u : Int32), TK I (aHrs (alX tn tx) n j (aR T)) M → u = (if i = 0 then aSum (aHrs (alX tn tx) n j (aR T)) 19 n else if i = 1 then aHrs (alX tn tx) n j (aR T) 6 else if i = 2 then aSum (aHrs (alX tn tx) n j (aR T)) 20 n else aHrs (alX tn tx) n j (aR T) (19 + 5 * (i - 3))) → PW G RX9 "behind" cX9_behind 4 (some .int) d 0 0 (RO S I T (if i = 0 then aSum (aHrs (alX tn tx) n j (aR T)) 19 n else if i = 1 then aHrs (alX tn tx) n j (aR T) 6 else if i = 2 then aSum (aHrs (alX tn tx) n j (aR T)) 20 n else aHrs (alX tn tx) n j (aR T) (19 + 5 * (i - 3)))) 62 [some (.ref 55), some (.int (nI j)), some (.int (nI i)), none] [.int u] S M := by
    intro M u hM hu
    rw [← hu]
    refine P_istore3 (pc' := 63) dX9_behind_62 rfl (by decide) rfl ?_
    refine P_aload0 (pc' := 64) dX9_behind_63 rfl ?_
    refine P_callV0 (pc' := 67) dX9_behind_64 rfl lk_X9_159 (l_55 hsh) (t_55 hsh) (c_X9_putsBack (d := 1) hsh) (by omega) (Nat.le_of_ble_eq_true rfl) (fun r S' I' hq => ?_)
    obtain ⟨rfl, rfl, rfl⟩ := hq
    refine P_iload3 (pc' := 68) dX9_behind_67 rfl ?_
    refine P_iret dX9_behind_68 ?_
    exact hM.back.fin hI
  have GO : 0 = 0 := rfl
  by_cases h2 : i ≤ 2
  · skip
    refine P_iload1 (pc' := 1) dX9_behind_0 rfl ?_
    refine P_iconst (pc' := 2) dX9_behind_1 rfl (v := 0) rfl ?_
    refine P_bipush (pc' := 4) dX9_behind_2 rfl (v := 100) rfl ?_
    refine P_callS3 (pc' := 7) dX9_behind_4 rfl lk_X9_75 (c_X9_in (d := 0) _ 0 100) (by omega) (Nat.le_of_ble_eq_true rfl) (fun r S' I' hq => ?_)
    obtain ⟨rfl, rfl, rfl⟩ := hq
    refine P_if_eq (tgt := 29) (pc' := 10) dX9_behind_7 rfl rfl (fun h7 => ?_) (fun h7 => ?_)
    · exact absurd h7 hv
    · refine P_iload2 (pc' := 11) dX9_behind_10 rfl ?_
      refine P_if_lt (tgt := 29) (pc' := 14) dX9_behind_11 rfl rfl (fun h11 => ?_) (fun h11 => ?_)
      · exact absurd h11 (nI_pos (by omega))
      · refine P_iload2 (pc' := 15) dX9_behind_14 rfl ?_
        refine P_iconst (pc' := 16) dX9_behind_15 rfl (v := 2) rfl ?_
        refine P_icmp_le (tgt := 32) (pc' := 19) dX9_behind_16 rfl rfl (fun h16 => ?_) (fun h16 => ?_)
        · refine P_aload0 (pc' := 33) dX9_behind_32 rfl ?_
          refine P_callV0 (pc' := 36) dX9_behind_33 rfl lk_X9_153 (l_55 hsh) (t_55 hsh) (c_X9_thinks (d := 1) hsh) (by omega) (Nat.le_of_ble_eq_true rfl) (fun r S' I' hq => ?_)
          obtain ⟨rfl, rfl, rfl⟩ := hq
          have hM := TK.start I
          rw [eR] at hM
          refine P_aload0 (pc' := 37) dX9_behind_36 rfl ?_
          refine P_iload1 (pc' := 38) dX9_behind_37 rfl ?_
          refine P_callV1 (pc' := 41) dX9_behind_38 rfl lk_X9_143 (l_55 hsh) (t_55 hsh) (c_X9_goesOn (d := 6) (n := n) hsh (hM.rt (by rw [eR]) hr) hrd (by rw [hM.1]; exact hw) (by omega) (by omega)) (by omega) (Nat.le_of_ble_eq_true rfl) (fun r S3 I3 hq => ?_)
          obtain ⟨rfl, rfl, hP⟩ := hq
          rw [hM.1] at hP
          have hM3 := hM.ps hP
          refine P_iload2 (pc' := 42) dX9_behind_41 rfl ?_
          refine P_iconst (pc' := 43) dX9_behind_42 rfl (v := 2) rfl ?_
          refine P_icmp_le (tgt := 57) (pc' := 46) dX9_behind_43 rfl rfl (fun h43 => ?_) (fun h43 => ?_)
          · refine P_aload0 (pc' := 58) dX9_behind_57 rfl ?_
            refine P_iload2 (pc' := 59) dX9_behind_58 rfl ?_
            refine P_callV1 (pc' := 62) dX9_behind_59 rfl lk_X9_156 (l_55 hsh) (t_55 hsh) (c_guild (d := 4) (n := n) (Q := Rm S I3 (vGui (aR I3) (nI i))) (nI i) hsh (by rw [hM3.1]; exact aHrs_wa hw) (by omega) ⟨rfl, rfl, rfl⟩) (by omega) (Nat.le_of_ble_eq_true rfl) (fun r S' I' hq => ?_)
            obtain ⟨rfl, rfl, rfl⟩ := hq
            refine fin I3 _ hM3 ?_
            rw [vGui_n (by rw [hM3.1]; exact (aHrs_wa hw).1) (by omega), hM3.1]
            have key : i = 0 ∨ i = 1 ∨ i = 2 := by omega
            rcases key with rfl | rfl | rfl
            · rw [if_pos (by decide), if_pos rfl]
            · rw [if_neg (by decide), if_pos (by decide), if_neg (by decide), if_pos rfl]
            · rw [if_neg (by decide), if_neg (by decide), if_pos (by decide), if_neg (by decide), if_neg (by decide), if_pos rfl]
          · exact absurd (nI_le (b := 2) h2 (by decide)) h43
        · exact absurd (nI_le (b := 2) h2 (by decide)) h16
  · have e3 : nI i - 3 = nI (i - 3) := pk_sub (a := i) (b := 3) (by omega)
    refine P_iload1 (pc' := 1) dX9_behind_0 rfl ?_
    refine P_iconst (pc' := 2) dX9_behind_1 rfl (v := 0) rfl ?_
    refine P_bipush (pc' := 4) dX9_behind_2 rfl (v := 100) rfl ?_
    refine P_callS3 (pc' := 7) dX9_behind_4 rfl lk_X9_75 (c_X9_in (d := 0) _ 0 100) (by omega) (Nat.le_of_ble_eq_true rfl) (fun r S' I' hq => ?_)
    obtain ⟨rfl, rfl, rfl⟩ := hq
    refine P_if_eq (tgt := 29) (pc' := 10) dX9_behind_7 rfl rfl (fun h7 => ?_) (fun h7 => ?_)
    · exact absurd h7 hv
    · refine P_iload2 (pc' := 11) dX9_behind_10 rfl ?_
      refine P_if_lt (tgt := 29) (pc' := 14) dX9_behind_11 rfl rfl (fun h11 => ?_) (fun h11 => ?_)
      · exact absurd h11 (nI_pos (by omega))
      · refine P_iload2 (pc' := 15) dX9_behind_14 rfl ?_
        refine P_iconst (pc' := 16) dX9_behind_15 rfl (v := 2) rfl ?_
        refine P_icmp_le (tgt := 32) (pc' := 19) dX9_behind_16 rfl rfl (fun h16 => ?_) (fun h16 => ?_)
        · exact absurd h16 (nI_ge (a := 2) (by omega) (by omega))
        · refine P_aload0 (pc' := 20) dX9_behind_19 rfl ?_
          refine P_iload2 (pc' := 21) dX9_behind_20 rfl ?_
          refine P_iconst (pc' := 22) dX9_behind_21 rfl (v := 3) rfl ?_
          refine P_isub (pc' := 23) dX9_behind_22 rfl ?_
          refine P_as e3 ?_
          refine P_callV1 (pc' := 26) dX9_behind_23 rfl lk_X9_93 (l_55 hsh) (t_55 hsh) (c_X9_isBeggar (d := 1) _ hsh hz (by omega)) (by omega) (Nat.le_of_ble_eq_true rfl) (fun r S' I' hq => ?_)
          obtain ⟨rfl, rfl, rfl⟩ := hq
          refine P_if_ne (tgt := 32) (pc' := 29) dX9_behind_26 rfl rfl (fun h26 => ?_) (fun h26 => ?_)
          · refine P_aload0 (pc' := 33) dX9_behind_32 rfl ?_
            refine P_callV0 (pc' := 36) dX9_behind_33 rfl lk_X9_153 (l_55 hsh) (t_55 hsh) (c_X9_thinks (d := 1) hsh) (by omega) (Nat.le_of_ble_eq_true rfl) (fun r S' I' hq => ?_)
            obtain ⟨rfl, rfl, rfl⟩ := hq
            have hM := TK.start I
            rw [eR] at hM
            refine P_aload0 (pc' := 37) dX9_behind_36 rfl ?_
            refine P_iload1 (pc' := 38) dX9_behind_37 rfl ?_
            refine P_callV1 (pc' := 41) dX9_behind_38 rfl lk_X9_143 (l_55 hsh) (t_55 hsh) (c_X9_goesOn (d := 6) (n := n) hsh (hM.rt (by rw [eR]) hr) hrd (by rw [hM.1]; exact hw) (by omega) (by omega)) (by omega) (Nat.le_of_ble_eq_true rfl) (fun r S3 I3 hq => ?_)
            obtain ⟨rfl, rfl, hP⟩ := hq
            rw [hM.1] at hP
            have hM3 := hM.ps hP
            refine P_iload2 (pc' := 42) dX9_behind_41 rfl ?_
            refine P_iconst (pc' := 43) dX9_behind_42 rfl (v := 2) rfl ?_
            refine P_icmp_le (tgt := 57) (pc' := 46) dX9_behind_43 rfl rfl (fun h43 => ?_) (fun h43 => ?_)
            · exact absurd h43 (nI_ge (a := 2) (by omega) (by omega))
            · refine P_aload0 (pc' := 47) dX9_behind_46 rfl ?_
              refine P_iload2 (pc' := 48) dX9_behind_47 rfl ?_
              refine P_iconst (pc' := 49) dX9_behind_48 rfl (v := 3) rfl ?_
              refine P_isub (pc' := 50) dX9_behind_49 rfl ?_
              refine P_as e3 ?_
              refine P_iconst (pc' := 51) dX9_behind_50 rfl (v := 3) rfl ?_
              refine P_callV2 (pc' := 54) dX9_behind_51 rfl lk_X9_89 (l_55 hsh) (t_55 hsh) (c_X9_of (d := 0) (k := 3) hsh (by omega) (by omega)) (by omega) (Nat.le_of_ble_eq_true rfl) (fun r S' I' hq => ?_)
              obtain ⟨rfl, rfl, rfl⟩ := hq
              refine P_goto (tgt := 62) dX9_behind_54 rfl ?_
              refine fin I3 _ hM3 ?_
              rw [if_neg (by omega), if_neg (by omega), if_neg (by omega), aR_rd I3 (by omega), hM3.1, show 16 + 5 * (i - 3) + 3 = 19 + 5 * (i - 3) by omega]
          · exact absurd h26 (by rw [wi_y (by omega) (by omega)]; decide)
def bM (q : Option (Nat × Int32)) : Int32 := match q with
  | none => -1
  | some (b, _) => nI b
theorem lp_X9_best {G : GX} {S : Shp} {I T : Mem} {d tn bn n b h : Nat} {tx : Nat → Tx} {y : Int32} {R : Option (Nat × Int32)} (hsh : SHP S) (hI : RI T I) (hr : RT I tn tx) (hrd : RTd tn tx) (hw : WA (aR I) n) (hn : n ≤ 8) (hb : b < n) (hh : h ≤ 100) (hd : 12 ≤ d) : ∀ (k c : Nat) (M : Mem) (q : Option (Nat × Int32)) (x7 : Option Value), c + k = 9 → TK I (aR I) M → (c = 0 ↔ q = none) → (∀ b m, q = some (b, m) → b < 1000) → sel (fBes (alX tn tx) (aR I) n b h) k c q = R → PW G RX9 "best" cX9_best 8 (some .int) d 0 0 (RO S I T (resV y R)) 43 [some (.ref 55), some (.int (nI b)), some (.int (nI h)), some (.int y), some (.int (bM q)), some (.int (mC q)), some (.int (nI c)), x7] [] S M := by
  intro k
  induction k with
  | zero =>
    intro c M q x7 hc hM hq hb2 hR
    have hc : c = 9 := by omega
    subst hc
    have hR : q = R := hR
    subst hR
    cases q with
    | none => exact absurd (hq.mpr rfl) (by decide)
    | some z =>
      obtain ⟨b', m⟩ := z
      refine P_iload6 (pc' := 45) dX9_best_43 rfl ?_
      refine P_bipush (pc' := 47) dX9_best_45 rfl (v := 8) rfl ?_
      refine P_icmp_gt (tgt := 101) (pc' := 50) dX9_best_47 rfl rfl (fun h47 => ?_) (fun h47 => ?_)
      · refine P_iload3 (pc' := 102) dX9_best_101 rfl ?_
        refine P_if_ne (tgt := 110) (pc' := 105) dX9_best_102 rfl rfl (fun h102 => ?_) (fun h102 => ?_)
        · refine P_iload5 (pc' := 112) dX9_best_110 rfl ?_
          refine P_iret dX9_best_112 ?_
          first
            | (rw [show resV y (some (b', m)) = nI b' from if_pos h102]; exact hM.fin hI)
            | (rw [show resV y (some (b', m)) = m from if_neg h102]; exact hM.fin hI)
        · refine P_iload4 (pc' := 107) dX9_best_105 rfl ?_
          refine P_goto (tgt := 112) dX9_best_107 rfl ?_
          refine P_iret dX9_best_112 ?_
          first
            | (rw [show resV y (some (b', m)) = nI b' from if_pos h102]; exact hM.fin hI)
            | (rw [show resV y (some (b', m)) = m from if_neg h102]; exact hM.fin hI)
      · exact absurd (show (8 : Int32) < nI 9 by decide) h47
  | succ k ih =>
    intro c M q x7 hc hM hq hb2 hR
    rw [sel_s] at hR
    have hfc : fBes (alX tn tx) (aR I) n b h c = some (aHrs (alX tn tx) n h (upd (aR I) (17 + 5 * b) (nI c)) (19 + 5 * b)) := rfl
    have hw2 : WA (upd (aR I) (17 + 5 * b) (nI c)) n := hw.wc (by omega) (by omega)
    cases q with
    | none =>
      rw [selS_0 hfc] at hR
      refine P_iload6 (pc' := 45) dX9_best_43 rfl ?_
      refine P_bipush (pc' := 47) dX9_best_45 rfl (v := 8) rfl ?_
      refine P_icmp_gt (tgt := 101) (pc' := 50) dX9_best_47 rfl rfl (fun h47 => ?_) (fun h47 => ?_)
      · exact absurd h47 (Int32.not_lt.mpr (nI_le (a := c) (b := 8) (by omega) (by decide)))
      · refine P_aload0 (pc' := 51) dX9_best_50 rfl ?_
        refine P_iload1 (pc' := 52) dX9_best_51 rfl ?_
        refine P_iconst (pc' := 53) dX9_best_52 rfl (v := 1) rfl ?_
        refine P_iload6 (pc' := 55) dX9_best_53 rfl ?_
        refine P_callV3 (pc' := 58) dX9_best_55 rfl lk_X9_79 (l_55 hsh) (t_55 hsh) (c_X9_put (d := 0) (k := 1) hsh (by omega) (by decide)) (by omega) (Nat.le_of_ble_eq_true rfl) (fun r S' I' hq => ?_)
        obtain ⟨rfl, rfl, rfl⟩ := hq
        have hM2 := hM.ps (PsR.put (I := M) (i := 16 + 5 * b + 1) (v := nI c) (by omega))
        rw [hM.1, show 16 + 5 * b + 1 = 17 + 5 * b by omega] at hM2
        rw [show 16 + 5 * b + 1 = 17 + 5 * b by omega]
        refine P_aload0 (pc' := 59) dX9_best_58 rfl ?_
        refine P_iload2 (pc' := 60) dX9_best_59 rfl ?_
        refine P_callV1 (pc' := 63) dX9_best_60 rfl lk_X9_143 (l_55 hsh) (t_55 hsh) (c_X9_goesOn (d := 6) (n := n) hsh (hM2.rt (upd_n (by omega)) hr) hrd (by rw [hM2.1]; exact hw2) (by omega) (by omega)) (by omega) (Nat.le_of_ble_eq_true rfl) (fun r S3 I3 hq => ?_)
        obtain ⟨rfl, rfl, hP⟩ := hq
        rw [hM2.1] at hP
        have hM3 := hM2.ps hP
        have hz3 := hM3.z (aHrs_wa hw2)
        refine P_aload0 (pc' := 64) dX9_best_63 rfl ?_
        refine P_iload1 (pc' := 65) dX9_best_64 rfl ?_
        refine P_iconst (pc' := 66) dX9_best_65 rfl (v := 3) rfl ?_
        refine P_callV2 (pc' := 69) dX9_best_66 rfl lk_X9_89 (l_55 hsh) (t_55 hsh) (c_X9_of (d := 0) (k := 3) hsh (by omega) (by omega)) (by omega) (Nat.le_of_ble_eq_true rfl) (fun r S' I' hq => ?_)
        obtain ⟨rfl, rfl, rfl⟩ := hq
        refine P_as (y := aHrs (alX tn tx) n h (upd (aR I) (17 + 5 * b) (nI c)) (19 + 5 * b)) (by rw [aR_rd I3 (by omega), hM3.1, show 16 + 5 * b + 3 = 19 + 5 * b by omega]) ?_
        refine P_istore7 (pc' := 71) dX9_best_69 rfl (by decide) rfl ?_
        refine P_aload0 (pc' := 72) dX9_best_71 rfl ?_
        refine P_callV0 (pc' := 75) dX9_best_72 rfl lk_X9_159 (l_55 hsh) (t_55 hsh) (c_X9_putsBack (d := 1) hsh) (by omega) (Nat.le_of_ble_eq_true rfl) (fun r S' I' hq => ?_)
        obtain ⟨rfl, rfl, rfl⟩ := hq
        refine P_iload4 (pc' := 77) dX9_best_75 rfl ?_
        refine P_if_lt (tgt := 87) (pc' := 80) dX9_best_77 rfl rfl (fun h77 => ?_) (fun h77 => ?_)
        · refine P_iload6 (pc' := 89) dX9_best_87 rfl ?_
          refine P_istore4 (pc' := 91) dX9_best_89 rfl (by decide) rfl ?_
          refine P_iload7 (pc' := 93) dX9_best_91 rfl ?_
          refine P_istore5 (pc' := 95) dX9_best_93 rfl (by decide) rfl ?_
          refine P_iinc6 (pc' := 98) dX9_best_95 rfl (nI_1 c) (by decide) rfl ?_
          refine P_goto (tgt := 43) dX9_best_98 rfl ?_
          exact ih (c + 1) _ (some (c, _)) _ (by omega) hM3.back ⟨fun z => by omega, fun z => by cases z⟩ (fun b m z => by cases z; omega) hR
        · exact absurd (by decide) h77
    | some z =>
      obtain ⟨b', m⟩ := z
      refine P_iload6 (pc' := 45) dX9_best_43 rfl ?_
      refine P_bipush (pc' := 47) dX9_best_45 rfl (v := 8) rfl ?_
      refine P_icmp_gt (tgt := 101) (pc' := 50) dX9_best_47 rfl rfl (fun h47 => ?_) (fun h47 => ?_)
      · exact absurd h47 (Int32.not_lt.mpr (nI_le (a := c) (b := 8) (by omega) (by decide)))
      · refine P_aload0 (pc' := 51) dX9_best_50 rfl ?_
        refine P_iload1 (pc' := 52) dX9_best_51 rfl ?_
        refine P_iconst (pc' := 53) dX9_best_52 rfl (v := 1) rfl ?_
        refine P_iload6 (pc' := 55) dX9_best_53 rfl ?_
        refine P_callV3 (pc' := 58) dX9_best_55 rfl lk_X9_79 (l_55 hsh) (t_55 hsh) (c_X9_put (d := 0) (k := 1) hsh (by omega) (by decide)) (by omega) (Nat.le_of_ble_eq_true rfl) (fun r S' I' hq => ?_)
        obtain ⟨rfl, rfl, rfl⟩ := hq
        have hM2 := hM.ps (PsR.put (I := M) (i := 16 + 5 * b + 1) (v := nI c) (by omega))
        rw [hM.1, show 16 + 5 * b + 1 = 17 + 5 * b by omega] at hM2
        rw [show 16 + 5 * b + 1 = 17 + 5 * b by omega]
        refine P_aload0 (pc' := 59) dX9_best_58 rfl ?_
        refine P_iload2 (pc' := 60) dX9_best_59 rfl ?_
        refine P_callV1 (pc' := 63) dX9_best_60 rfl lk_X9_143 (l_55 hsh) (t_55 hsh) (c_X9_goesOn (d := 6) (n := n) hsh (hM2.rt (upd_n (by omega)) hr) hrd (by rw [hM2.1]; exact hw2) (by omega) (by omega)) (by omega) (Nat.le_of_ble_eq_true rfl) (fun r S3 I3 hq => ?_)
        obtain ⟨rfl, rfl, hP⟩ := hq
        rw [hM2.1] at hP
        have hM3 := hM2.ps hP
        have hz3 := hM3.z (aHrs_wa hw2)
        refine P_aload0 (pc' := 64) dX9_best_63 rfl ?_
        refine P_iload1 (pc' := 65) dX9_best_64 rfl ?_
        refine P_iconst (pc' := 66) dX9_best_65 rfl (v := 3) rfl ?_
        refine P_callV2 (pc' := 69) dX9_best_66 rfl lk_X9_89 (l_55 hsh) (t_55 hsh) (c_X9_of (d := 0) (k := 3) hsh (by omega) (by omega)) (by omega) (Nat.le_of_ble_eq_true rfl) (fun r S' I' hq => ?_)
        obtain ⟨rfl, rfl, rfl⟩ := hq
        refine P_as (y := aHrs (alX tn tx) n h (upd (aR I) (17 + 5 * b) (nI c)) (19 + 5 * b)) (by rw [aR_rd I3 (by omega), hM3.1, show 16 + 5 * b + 3 = 19 + 5 * b by omega]) ?_
        refine P_istore7 (pc' := 71) dX9_best_69 rfl (by decide) rfl ?_
        refine P_aload0 (pc' := 72) dX9_best_71 rfl ?_
        refine P_callV0 (pc' := 75) dX9_best_72 rfl lk_X9_159 (l_55 hsh) (t_55 hsh) (c_X9_putsBack (d := 1) hsh) (by omega) (Nat.le_of_ble_eq_true rfl) (fun r S' I' hq => ?_)
        obtain ⟨rfl, rfl, rfl⟩ := hq
        refine P_iload4 (pc' := 77) dX9_best_75 rfl ?_
        refine P_if_lt (tgt := 87) (pc' := 80) dX9_best_77 rfl rfl (fun h77 => ?_) (fun h77 => ?_)
        · exact absurd h77 (nI_pos (by have := hb2 _ _ rfl; omega))
        · refine P_iload7 (pc' := 82) dX9_best_80 rfl ?_
          refine P_iload5 (pc' := 84) dX9_best_82 rfl ?_
          refine P_icmp_le (tgt := 95) (pc' := 87) dX9_best_84 rfl rfl (fun h84 => ?_) (fun h84 => ?_)
          · refine P_iinc6 (pc' := 98) dX9_best_95 rfl (nI_1 c) (by decide) rfl ?_
            refine P_goto (tgt := 43) dX9_best_98 rfl ?_
            first
              | (rw [selS_k (m := m) hfc (Int32.not_lt.mpr h84)] at hR
                 exact ih (c + 1) _ (some (b', m)) _ (by omega) hM3.back ⟨fun z => by omega, fun z => by cases z⟩ hb2 hR)
              | (rw [selS_t (m := m) hfc (Int32.not_le.mp h84)] at hR
                 exact ih (c + 1) _ (some (c, _)) _ (by omega) hM3.back ⟨fun z => by omega, fun z => by cases z⟩ (fun b m z => by cases z; omega) hR)
          · refine P_iload6 (pc' := 89) dX9_best_87 rfl ?_
            refine P_istore4 (pc' := 91) dX9_best_89 rfl (by decide) rfl ?_
            refine P_iload7 (pc' := 93) dX9_best_91 rfl ?_
            refine P_istore5 (pc' := 95) dX9_best_93 rfl (by decide) rfl ?_
            refine P_iinc6 (pc' := 98) dX9_best_95 rfl (nI_1 c) (by decide) rfl ?_
            refine P_goto (tgt := 43) dX9_best_98 rfl ?_
            first
              | (rw [selS_k (m := m) hfc (Int32.not_lt.mpr h84)] at hR
                 exact ih (c + 1) _ (some (b', m)) _ (by omega) hM3.back ⟨fun z => by omega, fun z => by cases z⟩ hb2 hR)
              | (rw [selS_t (m := m) hfc (Int32.not_le.mp h84)] at hR
                 exact ih (c + 1) _ (some (c, _)) _ (by omega) hM3.back ⟨fun z => by omega, fun z => by cases z⟩ (fun b m z => by cases z; omega) hR)
theorem r_best {G : GX} {S : Shp} {I T : Mem} {d tn bn : Nat} {tx : Nat → Tx} (hT : KT T tn bn tx) (hsh : SHP S) (hI : RI T I) (b v y : Int32) (hd : 12 ≤ d) : PM G yX9_best cX9_best 8 (some .int) d 0 0 [.ref 55, .int b, .int v, .int y] S I (RO S I T (vBes (alX tn tx) (aR T) b v y)) := by
  obtain ⟨n, hn, hw, eR, hz, hr, hrd⟩ := hT.n hI
  have ev : vBes (alX tn tx) (aR T) b v y = if wi b 0 (nI n - 1) = 0 then -1000000001 else if wi v 1 40 = 0 then -1000000001 else if wi y 0 1 = 0 then -1000000001 else resV y (sel (fBes (alX tn tx) (aR T) n b.toNatClampNeg v.toNatClampNeg) 9 0 none) := by unfold vBes; rw [hw.1, nI_clamp (by omega)]
  rw [ev]
  refine PM.of (ls := [some (.ref 55), some (.int b), some (.int v), some (.int y), none, none, none, none]) (by decide) rfl (Nat.le_of_ble_eq_true rfl) rfl ?_
  show PW G RX9 "best" _ _ _ _ _ _ _ _ _ _ _ _
  refine P_aload0 (pc' := 1) dX9_best_0 rfl ?_
  refine P_iload1 (pc' := 2) dX9_best_1 rfl ?_
  refine P_callV1 (pc' := 5) dX9_best_2 rfl lk_X9_93 (l_55 hsh) (t_55 hsh) (c_X9_isBeggar (d := 1) b hsh hz (by omega)) (by omega) (Nat.le_of_ble_eq_true rfl) (fun r S' I' hq => ?_)
  obtain ⟨rfl, rfl, rfl⟩ := hq
  refine P_if_eq (tgt := 27) (pc' := 8) dX9_best_5 rfl rfl (fun h5 => ?_) (fun h5 => ?_)
  · refine P_ldc (pc' := 29) dX9_best_27 rfl co_X9_83 ?_
    refine P_iret dX9_best_29 ?_
    first
      | (rw [if_pos h5]; exact RO.id hI)
      | (rw [if_neg h5, if_pos h15]; exact RO.id hI)
      | (rw [if_neg h5, if_neg h15, if_pos h24]; exact RO.id hI)
  · refine P_iload2 (pc' := 9) dX9_best_8 rfl ?_
    refine P_iconst (pc' := 10) dX9_best_9 rfl (v := 1) rfl ?_
    refine P_bipush (pc' := 12) dX9_best_10 rfl (v := 40) rfl ?_
    refine P_callS3 (pc' := 15) dX9_best_12 rfl lk_X9_75 (c_X9_in (d := 0) v 1 40) (by omega) (Nat.le_of_ble_eq_true rfl) (fun r S' I' hq => ?_)
    obtain ⟨rfl, rfl, rfl⟩ := hq
    refine P_if_eq (tgt := 27) (pc' := 18) dX9_best_15 rfl rfl (fun h15 => ?_) (fun h15 => ?_)
    · refine P_ldc (pc' := 29) dX9_best_27 rfl co_X9_83 ?_
      refine P_iret dX9_best_29 ?_
      first
        | (rw [if_pos h5]; exact RO.id hI)
        | (rw [if_neg h5, if_pos h15]; exact RO.id hI)
        | (rw [if_neg h5, if_neg h15, if_pos h24]; exact RO.id hI)
    · refine P_iload3 (pc' := 19) dX9_best_18 rfl ?_
      refine P_iconst (pc' := 20) dX9_best_19 rfl (v := 0) rfl ?_
      refine P_iconst (pc' := 21) dX9_best_20 rfl (v := 1) rfl ?_
      refine P_callS3 (pc' := 24) dX9_best_21 rfl lk_X9_75 (c_X9_in (d := 0) y 0 1) (by omega) (Nat.le_of_ble_eq_true rfl) (fun r S' I' hq => ?_)
      obtain ⟨rfl, rfl, rfl⟩ := hq
      refine P_if_ne (tgt := 30) (pc' := 27) dX9_best_24 rfl rfl (fun h24 => ?_) (fun h24 => ?_)
      · refine P_aload0 (pc' := 31) dX9_best_30 rfl ?_
        refine P_callV0 (pc' := 34) dX9_best_31 rfl lk_X9_153 (l_55 hsh) (t_55 hsh) (c_X9_thinks (d := 1) hsh) (by omega) (Nat.le_of_ble_eq_true rfl) (fun r S' I' hq => ?_)
        obtain ⟨rfl, rfl, rfl⟩ := hq
        refine P_iconst (pc' := 35) dX9_best_34 rfl (v := (-1)) rfl ?_
        refine P_istore4 (pc' := 37) dX9_best_35 rfl (by decide) rfl ?_
        refine P_iconst (pc' := 38) dX9_best_37 rfl (v := 0) rfl ?_
        refine P_istore5 (pc' := 40) dX9_best_38 rfl (by decide) rfl ?_
        refine P_iconst (pc' := 41) dX9_best_40 rfl (v := 0) rfl ?_
        refine P_istore6 (pc' := 43) dX9_best_41 rfl (by decide) rfl ?_
        rw [if_neg h5, if_neg h15, if_neg h24]
        obtain ⟨j, hj, rfl⟩ := wi_n (by omega) h5
        obtain ⟨i, i1, i2, rfl⟩ := wi_b1 (m := 40) (by decide) h15
        rw [nI_clamp (by omega), nI_clamp (by omega), ← eR]
        exact lp_X9_best (bn := bn) hsh hI hr hrd (by rw [eR]; exact hw) hn hj (by omega) hd 9 0 _ none _ (by omega) (TK.start I) ⟨fun _ => rfl, fun _ => rfl⟩ (fun _ _ z => by cases z) rfl
      · refine P_ldc (pc' := 29) dX9_best_27 rfl co_X9_83 ?_
        refine P_iret dX9_best_29 ?_
        first
          | (rw [if_pos h5]; exact RO.id hI)
          | (rw [if_neg h5, if_pos h15]; exact RO.id hI)
          | (rw [if_neg h5, if_neg h15, if_pos h24]; exact RO.id hI)
theorem lp_X9_mourned {G : GX} {S : Shp} {I T : Mem} {d tn bn n h : Nat} {tx : Nat → Tx} {y : Int32} {R : Option (Nat × Int32)} (hsh : SHP S) (hI : RI T I) (hr : RT I tn tx) (hrd : RTd tn tx) (hw : WA (aR I) n) (hn : n ≤ 8) (hh : h ≤ 100) (hd : 12 ≤ d) : ∀ (k c : Nat) (M : Mem) (q : Option (Nat × Int32)) (x6 : Option Value), c + k = 8 → TK I (aR I) M → (c = 0 ↔ q = none) → (∀ b m, q = some (b, m) → b < 1000) → sel (fMou (alX tn tx) (aR I) n h) k c q = R → PW G RX9 "mourned" cX9_mourned 7 (some .int) d 0 0 (RO S I T (resV y R)) 34 [some (.ref 55), some (.int (nI h)), some (.int y), some (.int (bM q)), some (.int (mC q)), some (.int (nI c)), x6] [] S M := by
  intro k
  induction k with
  | zero =>
    intro c M q x6 hc hM hq hb2 hR
    have hc : c = 8 := by omega
    subst hc
    have hR : q = R := hR
    subst hR
    cases q with
    | none => exact absurd (hq.mpr rfl) (by decide)
    | some z =>
      obtain ⟨b', m⟩ := z
      refine P_iload5 (pc' := 36) dX9_mourned_34 rfl ?_
      refine P_bipush (pc' := 38) dX9_mourned_36 rfl (v := 8) rfl ?_
      refine P_icmp_ge (tgt := 89) (pc' := 41) dX9_mourned_38 rfl rfl (fun h38 => ?_) (fun h38 => ?_)
      · refine P_iload2 (pc' := 90) dX9_mourned_89 rfl ?_
        refine P_if_ne (tgt := 97) (pc' := 93) dX9_mourned_90 rfl rfl (fun h90 => ?_) (fun h90 => ?_)
        · refine P_iload4 (pc' := 99) dX9_mourned_97 rfl ?_
          refine P_iret dX9_mourned_99 ?_
          first
            | (rw [show resV y (some (b', m)) = nI b' from if_pos h90]; exact hM.fin hI)
            | (rw [show resV y (some (b', m)) = m from if_neg h90]; exact hM.fin hI)
        · refine P_iload3 (pc' := 94) dX9_mourned_93 rfl ?_
          refine P_goto (tgt := 99) dX9_mourned_94 rfl ?_
          refine P_iret dX9_mourned_99 ?_
          first
            | (rw [show resV y (some (b', m)) = nI b' from if_pos h90]; exact hM.fin hI)
            | (rw [show resV y (some (b', m)) = m from if_neg h90]; exact hM.fin hI)
      · exact absurd (by decide) h38
  | succ k ih =>
    intro c M q x6 hc hM hq hb2 hR
    rw [sel_s] at hR
    have hfc : fMou (alX tn tx) (aR I) n h c = some (aSum (aHrs (alX tn tx) n h (upd (aR I) 5 (nI c))) 19 n) := rfl
    have hw2 : WA (upd (aR I) 5 (nI c)) n := hw.w5 (by omega)
    cases q with
    | none =>
      rw [selS_0 hfc] at hR
      refine P_iload5 (pc' := 36) dX9_mourned_34 rfl ?_
      refine P_bipush (pc' := 38) dX9_mourned_36 rfl (v := 8) rfl ?_
      refine P_icmp_ge (tgt := 89) (pc' := 41) dX9_mourned_38 rfl rfl (fun h38 => ?_) (fun h38 => ?_)
      · exact absurd h38 (nI_ge (a := c) (b := 8) (by omega) (by decide))
      · refine P_aload0 (pc' := 42) dX9_mourned_41 rfl ?_
        refine P_getr (pc' := 45) dX9_mourned_42 rfl fl_X9_9 rfl (l_55 hsh) (t_55 hsh) (q_55_0 hsh) ?_
        refine P_iconst (pc' := 46) dX9_mourned_45 rfl (v := 5) rfl ?_
        refine P_iload5 (pc' := 48) dX9_mourned_46 rfl ?_
        refine P_iast (pc' := 49) dX9_mourned_48 rfl (l_56 hsh) (t_56 hsh) (j := 5) rfl (by decide) (by decide) ?_
        have hM2 := hM.ps (PsR.put (I := M) (i := 5) (v := nI c) (by omega))
        rw [hM.1] at hM2
        refine P_aload0 (pc' := 50) dX9_mourned_49 rfl ?_
        refine P_iload1 (pc' := 51) dX9_mourned_50 rfl ?_
        refine P_callV1 (pc' := 54) dX9_mourned_51 rfl lk_X9_143 (l_55 hsh) (t_55 hsh) (c_X9_goesOn (d := 6) (n := n) hsh (hM2.rt (upd_n (by omega)) hr) hrd (by rw [hM2.1]; exact hw2) (by omega) (by omega)) (by omega) (Nat.le_of_ble_eq_true rfl) (fun r S3 I3 hq => ?_)
        obtain ⟨rfl, rfl, hP⟩ := hq
        rw [hM2.1] at hP
        have hM3 := hM2.ps hP
        have hz3 := hM3.z (aHrs_wa hw2)
        refine P_aload0 (pc' := 55) dX9_mourned_54 rfl ?_
        refine P_iconst (pc' := 56) dX9_mourned_55 rfl (v := 3) rfl ?_
        refine P_callV1 (pc' := 59) dX9_mourned_56 rfl lk_X9_140 (l_55 hsh) (t_55 hsh) (c_X9_sumOf (d := 2) (k := 3) hsh hz3 (by omega) (by decide) (by omega)) (by omega) (Nat.le_of_ble_eq_true rfl) (fun r S' I' hq => ?_)
        obtain ⟨rfl, rfl, rfl⟩ := hq
        refine P_as (show aSum (aR I3) (16 + 3) n = aSum (aHrs (alX tn tx) n h (upd (aR I) 5 (nI c))) 19 n by rw [hM3.1]) ?_
        refine P_istore6 (pc' := 61) dX9_mourned_59 rfl (by decide) rfl ?_
        refine P_aload0 (pc' := 62) dX9_mourned_61 rfl ?_
        refine P_callV0 (pc' := 65) dX9_mourned_62 rfl lk_X9_159 (l_55 hsh) (t_55 hsh) (c_X9_putsBack (d := 1) hsh) (by omega) (Nat.le_of_ble_eq_true rfl) (fun r S' I' hq => ?_)
        obtain ⟨rfl, rfl, rfl⟩ := hq
        refine P_iload3 (pc' := 66) dX9_mourned_65 rfl ?_
        refine P_if_lt (tgt := 76) (pc' := 69) dX9_mourned_66 rfl rfl (fun h66 => ?_) (fun h66 => ?_)
        · refine P_iload5 (pc' := 78) dX9_mourned_76 rfl ?_
          refine P_istore3 (pc' := 79) dX9_mourned_78 rfl (by decide) rfl ?_
          refine P_iload6 (pc' := 81) dX9_mourned_79 rfl ?_
          refine P_istore4 (pc' := 83) dX9_mourned_81 rfl (by decide) rfl ?_
          refine P_iinc5 (pc' := 86) dX9_mourned_83 rfl (nI_1 c) (by decide) rfl ?_
          refine P_goto (tgt := 34) dX9_mourned_86 rfl ?_
          exact ih (c + 1) _ (some (c, _)) _ (by omega) hM3.back ⟨fun z => by omega, fun z => by cases z⟩ (fun b m z => by cases z; omega) hR
        · exact absurd (by decide) h66
    | some z =>
      obtain ⟨b', m⟩ := z
      refine P_iload5 (pc' := 36) dX9_mourned_34 rfl ?_
      refine P_bipush (pc' := 38) dX9_mourned_36 rfl (v := 8) rfl ?_
      refine P_icmp_ge (tgt := 89) (pc' := 41) dX9_mourned_38 rfl rfl (fun h38 => ?_) (fun h38 => ?_)
      · exact absurd h38 (nI_ge (a := c) (b := 8) (by omega) (by decide))
      · refine P_aload0 (pc' := 42) dX9_mourned_41 rfl ?_
        refine P_getr (pc' := 45) dX9_mourned_42 rfl fl_X9_9 rfl (l_55 hsh) (t_55 hsh) (q_55_0 hsh) ?_
        refine P_iconst (pc' := 46) dX9_mourned_45 rfl (v := 5) rfl ?_
        refine P_iload5 (pc' := 48) dX9_mourned_46 rfl ?_
        refine P_iast (pc' := 49) dX9_mourned_48 rfl (l_56 hsh) (t_56 hsh) (j := 5) rfl (by decide) (by decide) ?_
        have hM2 := hM.ps (PsR.put (I := M) (i := 5) (v := nI c) (by omega))
        rw [hM.1] at hM2
        refine P_aload0 (pc' := 50) dX9_mourned_49 rfl ?_
        refine P_iload1 (pc' := 51) dX9_mourned_50 rfl ?_
        refine P_callV1 (pc' := 54) dX9_mourned_51 rfl lk_X9_143 (l_55 hsh) (t_55 hsh) (c_X9_goesOn (d := 6) (n := n) hsh (hM2.rt (upd_n (by omega)) hr) hrd (by rw [hM2.1]; exact hw2) (by omega) (by omega)) (by omega) (Nat.le_of_ble_eq_true rfl) (fun r S3 I3 hq => ?_)
        obtain ⟨rfl, rfl, hP⟩ := hq
        rw [hM2.1] at hP
        have hM3 := hM2.ps hP
        have hz3 := hM3.z (aHrs_wa hw2)
        refine P_aload0 (pc' := 55) dX9_mourned_54 rfl ?_
        refine P_iconst (pc' := 56) dX9_mourned_55 rfl (v := 3) rfl ?_
        refine P_callV1 (pc' := 59) dX9_mourned_56 rfl lk_X9_140 (l_55 hsh) (t_55 hsh) (c_X9_sumOf (d := 2) (k := 3) hsh hz3 (by omega) (by decide) (by omega)) (by omega) (Nat.le_of_ble_eq_true rfl) (fun r S' I' hq => ?_)
        obtain ⟨rfl, rfl, rfl⟩ := hq
        refine P_as (show aSum (aR I3) (16 + 3) n = aSum (aHrs (alX tn tx) n h (upd (aR I) 5 (nI c))) 19 n by rw [hM3.1]) ?_
        refine P_istore6 (pc' := 61) dX9_mourned_59 rfl (by decide) rfl ?_
        refine P_aload0 (pc' := 62) dX9_mourned_61 rfl ?_
        refine P_callV0 (pc' := 65) dX9_mourned_62 rfl lk_X9_159 (l_55 hsh) (t_55 hsh) (c_X9_putsBack (d := 1) hsh) (by omega) (Nat.le_of_ble_eq_true rfl) (fun r S' I' hq => ?_)
        obtain ⟨rfl, rfl, rfl⟩ := hq
        refine P_iload3 (pc' := 66) dX9_mourned_65 rfl ?_
        refine P_if_lt (tgt := 76) (pc' := 69) dX9_mourned_66 rfl rfl (fun h66 => ?_) (fun h66 => ?_)
        · exact absurd h66 (nI_pos (by have := hb2 _ _ rfl; omega))
        · refine P_iload6 (pc' := 71) dX9_mourned_69 rfl ?_
          refine P_iload4 (pc' := 73) dX9_mourned_71 rfl ?_
          refine P_icmp_le (tgt := 83) (pc' := 76) dX9_mourned_73 rfl rfl (fun h73 => ?_) (fun h73 => ?_)
          · refine P_iinc5 (pc' := 86) dX9_mourned_83 rfl (nI_1 c) (by decide) rfl ?_
            refine P_goto (tgt := 34) dX9_mourned_86 rfl ?_
            first
              | (rw [selS_k (m := m) hfc (Int32.not_lt.mpr h73)] at hR
                 exact ih (c + 1) _ (some (b', m)) _ (by omega) hM3.back ⟨fun z => by omega, fun z => by cases z⟩ hb2 hR)
              | (rw [selS_t (m := m) hfc (Int32.not_le.mp h73)] at hR
                 exact ih (c + 1) _ (some (c, _)) _ (by omega) hM3.back ⟨fun z => by omega, fun z => by cases z⟩ (fun b m z => by cases z; omega) hR)
          · refine P_iload5 (pc' := 78) dX9_mourned_76 rfl ?_
            refine P_istore3 (pc' := 79) dX9_mourned_78 rfl (by decide) rfl ?_
            refine P_iload6 (pc' := 81) dX9_mourned_79 rfl ?_
            refine P_istore4 (pc' := 83) dX9_mourned_81 rfl (by decide) rfl ?_
            refine P_iinc5 (pc' := 86) dX9_mourned_83 rfl (nI_1 c) (by decide) rfl ?_
            refine P_goto (tgt := 34) dX9_mourned_86 rfl ?_
            first
              | (rw [selS_k (m := m) hfc (Int32.not_lt.mpr h73)] at hR
                 exact ih (c + 1) _ (some (b', m)) _ (by omega) hM3.back ⟨fun z => by omega, fun z => by cases z⟩ hb2 hR)
              | (rw [selS_t (m := m) hfc (Int32.not_le.mp h73)] at hR
                 exact ih (c + 1) _ (some (c, _)) _ (by omega) hM3.back ⟨fun z => by omega, fun z => by cases z⟩ (fun b m z => by cases z; omega) hR)
theorem r_mourned {G : GX} {S : Shp} {I T : Mem} {d tn bn : Nat} {tx : Nat → Tx} (hT : KT T tn bn tx) (hsh : SHP S) (hI : RI T I) (v y : Int32) (hd : 12 ≤ d) : PM G yX9_mourned cX9_mourned 7 (some .int) d 0 0 [.ref 55, .int v, .int y] S I (RO S I T (vMou (alX tn tx) (aR T) v y)) := by
  obtain ⟨n, hn, hw, eR, hz, hr, hrd⟩ := hT.n hI
  have ev : vMou (alX tn tx) (aR T) v y = if wi v 1 60 = 0 then -1000000001 else if wi y 0 1 = 0 then -1000000001 else resV y (sel (fMou (alX tn tx) (aR T) n v.toNatClampNeg) 8 0 none) := by unfold vMou; rw [hw.1, nI_clamp (by omega)]
  rw [ev]
  refine PM.of (ls := [some (.ref 55), some (.int v), some (.int y), none, none, none, none]) (by decide) rfl (Nat.le_of_ble_eq_true rfl) rfl ?_
  show PW G RX9 "mourned" _ _ _ _ _ _ _ _ _ _ _ _
  refine P_iload1 (pc' := 1) dX9_mourned_0 rfl ?_
  refine P_iconst (pc' := 2) dX9_mourned_1 rfl (v := 1) rfl ?_
  refine P_bipush (pc' := 4) dX9_mourned_2 rfl (v := 60) rfl ?_
  refine P_callS3 (pc' := 7) dX9_mourned_4 rfl lk_X9_75 (c_X9_in (d := 0) v 1 60) (by omega) (Nat.le_of_ble_eq_true rfl) (fun r S' I' hq => ?_)
  obtain ⟨rfl, rfl, rfl⟩ := hq
  refine P_if_eq (tgt := 19) (pc' := 10) dX9_mourned_7 rfl rfl (fun h7 => ?_) (fun h7 => ?_)
  · refine P_ldc (pc' := 21) dX9_mourned_19 rfl co_X9_83 ?_
    refine P_iret dX9_mourned_21 ?_
    first
      | (rw [if_pos h7]; exact RO.id hI)
      | (rw [if_neg h7, if_pos h16]; exact RO.id hI)
  · refine P_iload2 (pc' := 11) dX9_mourned_10 rfl ?_
    refine P_iconst (pc' := 12) dX9_mourned_11 rfl (v := 0) rfl ?_
    refine P_iconst (pc' := 13) dX9_mourned_12 rfl (v := 1) rfl ?_
    refine P_callS3 (pc' := 16) dX9_mourned_13 rfl lk_X9_75 (c_X9_in (d := 0) y 0 1) (by omega) (Nat.le_of_ble_eq_true rfl) (fun r S' I' hq => ?_)
    obtain ⟨rfl, rfl, rfl⟩ := hq
    refine P_if_ne (tgt := 22) (pc' := 19) dX9_mourned_16 rfl rfl (fun h16 => ?_) (fun h16 => ?_)
    · refine P_aload0 (pc' := 23) dX9_mourned_22 rfl ?_
      refine P_callV0 (pc' := 26) dX9_mourned_23 rfl lk_X9_153 (l_55 hsh) (t_55 hsh) (c_X9_thinks (d := 1) hsh) (by omega) (Nat.le_of_ble_eq_true rfl) (fun r S' I' hq => ?_)
      obtain ⟨rfl, rfl, rfl⟩ := hq
      refine P_iconst (pc' := 27) dX9_mourned_26 rfl (v := (-1)) rfl ?_
      refine P_istore3 (pc' := 28) dX9_mourned_27 rfl (by decide) rfl ?_
      refine P_iconst (pc' := 29) dX9_mourned_28 rfl (v := 0) rfl ?_
      refine P_istore4 (pc' := 31) dX9_mourned_29 rfl (by decide) rfl ?_
      refine P_iconst (pc' := 32) dX9_mourned_31 rfl (v := 0) rfl ?_
      refine P_istore5 (pc' := 34) dX9_mourned_32 rfl (by decide) rfl ?_
      rw [if_neg h7, if_neg h16]
      obtain ⟨i, i1, i2, rfl⟩ := wi_b1 (m := 60) (by decide) h7
      rw [nI_clamp (by omega), ← eR]
      exact lp_X9_mourned (bn := bn) hsh hI hr hrd (by rw [eR]; exact hw) hn (by omega) hd 8 0 _ none _ (by omega) (TK.start I) ⟨fun _ => rfl, fun _ => rfl⟩ (fun _ _ z => by cases z) rfl
    · refine P_ldc (pc' := 21) dX9_mourned_19 rfl co_X9_83 ?_
      refine P_iret dX9_mourned_21 ?_
      first
        | (rw [if_pos h7]; exact RO.id hI)
        | (rw [if_neg h7, if_pos h16]; exact RO.id hI)
theorem r_takes {G : GX} {S : Shp} {I T : Mem} {d tn bn : Nat} {tx : Nat → Tx} (hT : KT T tn bn tx) (hsh : SHP S) (hI : RI T I) (k c v : Int32) (hd : 12 ≤ d) : PM G yX9_takes cX9_takes 7 (some .int) d 0 0 [.ref 55, .int k, .int c, .int v] S I (RO S I T (vTks (alX tn tx) (aR T) k c v)) := by
  obtain ⟨n, hn, hw, eR, hz, hr, hrd⟩ := hT.n hI
  refine PM.of (ls := [some (.ref 55), some (.int k), some (.int c), some (.int v), none, none, none]) (by decide) rfl (Nat.le_of_ble_eq_true rfl) rfl ?_
  show PW G RX9 "takes" _ _ _ _ _ _ _ _ _ _ _ _
  refine P_iload1 (pc' := 1) dX9_takes_0 rfl ?_
  refine P_iconst (pc' := 2) dX9_takes_1 rfl (v := 0) rfl ?_
  refine P_iconst (pc' := 3) dX9_takes_2 rfl (v := 5) rfl ?_
  refine P_callS3 (pc' := 6) dX9_takes_3 rfl lk_X9_75 (c_X9_in (d := 0) k 0 5) (by omega) (Nat.le_of_ble_eq_true rfl) (fun r S' I' hq => ?_)
  obtain ⟨rfl, rfl, rfl⟩ := hq
  refine P_if_eq (tgt := 26) (pc' := 9) dX9_takes_6 rfl rfl (fun h6 => ?_) (fun h6 => ?_)
  · refine P_ldc (pc' := 28) dX9_takes_26 rfl co_X9_83 ?_
    refine P_iret dX9_takes_28 ?_
    first
      | (rw [show vTks (alX tn tx) (aR T) k c v = -1000000001 from if_pos h6]; exact RO.id hI)
      | (rw [show vTks (alX tn tx) (aR T) k c v = -1000000001 from (if_neg h6).trans (if_pos h13)]; exact RO.id hI)
      | (rw [show vTks (alX tn tx) (aR T) k c v = -1000000001 from (if_neg h6).trans ((if_neg h13).trans (if_pos h23))]; exact RO.id hI)
  · refine P_iload2 (pc' := 10) dX9_takes_9 rfl ?_
    refine P_callS1 (pc' := 13) dX9_takes_10 rfl lk_X9_125 (c_X9_isCorner (d := 1) c (by omega)) (by omega) (Nat.le_of_ble_eq_true rfl) (fun r S' I' hq => ?_)
    obtain ⟨rfl, rfl, rfl⟩ := hq
    refine P_if_eq (tgt := 26) (pc' := 16) dX9_takes_13 rfl rfl (fun h13 => ?_) (fun h13 => ?_)
    · refine P_ldc (pc' := 28) dX9_takes_26 rfl co_X9_83 ?_
      refine P_iret dX9_takes_28 ?_
      first
        | (rw [show vTks (alX tn tx) (aR T) k c v = -1000000001 from if_pos h6]; exact RO.id hI)
        | (rw [show vTks (alX tn tx) (aR T) k c v = -1000000001 from (if_neg h6).trans (if_pos h13)]; exact RO.id hI)
        | (rw [show vTks (alX tn tx) (aR T) k c v = -1000000001 from (if_neg h6).trans ((if_neg h13).trans (if_pos h23))]; exact RO.id hI)
    · refine P_iload3 (pc' := 17) dX9_takes_16 rfl ?_
      refine P_iconst (pc' := 18) dX9_takes_17 rfl (v := 1) rfl ?_
      refine P_bipush (pc' := 20) dX9_takes_18 rfl (v := 60) rfl ?_
      refine P_callS3 (pc' := 23) dX9_takes_20 rfl lk_X9_75 (c_X9_in (d := 0) v 1 60) (by omega) (Nat.le_of_ble_eq_true rfl) (fun r S' I' hq => ?_)
      obtain ⟨rfl, rfl, rfl⟩ := hq
      refine P_if_ne (tgt := 29) (pc' := 26) dX9_takes_23 rfl rfl (fun h23 => ?_) (fun h23 => ?_)
      · obtain ⟨c', hc', rfl⟩ := wi_b (m := 7) (by decide) h13
        obtain ⟨j, j1, j2, rfl⟩ := wi_b1 (m := 60) (by decide) h23
        refine P_aload0 (pc' := 30) dX9_takes_29 rfl ?_
        refine P_callV0 (pc' := 33) dX9_takes_30 rfl lk_X9_153 (l_55 hsh) (t_55 hsh) (c_X9_thinks (d := 1) hsh) (by omega) (Nat.le_of_ble_eq_true rfl) (fun r S' I' hq => ?_)
        obtain ⟨rfl, rfl, rfl⟩ := hq
        have hM := TK.start I
        rw [eR] at hM
        refine P_aload0 (pc' := 34) dX9_takes_33 rfl ?_
        refine P_iload3 (pc' := 35) dX9_takes_34 rfl ?_
        refine P_callV1 (pc' := 38) dX9_takes_35 rfl lk_X9_143 (l_55 hsh) (t_55 hsh) (c_X9_goesOn (d := 6) (n := n) hsh (hM.rt (by rw [eR]) hr) hrd (by rw [hM.1]; exact hw) (by omega) (by omega)) (by omega) (Nat.le_of_ble_eq_true rfl) (fun r S3 I3 hq => ?_)
        obtain ⟨rfl, rfl, hP⟩ := hq
        rw [hM.1] at hP
        have hM3 := hM.ps hP
        have hz3 := hM3.z (aHrs_wa hw)
        refine P_aload0 (pc' := 39) dX9_takes_38 rfl ?_
        refine P_iconst (pc' := 40) dX9_takes_39 rfl (v := 3) rfl ?_
        refine P_callV1 (pc' := 43) dX9_takes_40 rfl lk_X9_140 (l_55 hsh) (t_55 hsh) (c_X9_sumOf (d := 2) (k := 3) hsh hz3 (by omega) (by decide) (by omega)) (by omega) (Nat.le_of_ble_eq_true rfl) (fun r S' I' hq => ?_)
        obtain ⟨rfl, rfl, rfl⟩ := hq
        refine P_istore4 (pc' := 45) dX9_takes_43 rfl (by decide) rfl ?_
        refine P_aload0 (pc' := 46) dX9_takes_45 rfl ?_
        refine P_callV0 (pc' := 49) dX9_takes_46 rfl lk_X9_159 (l_55 hsh) (t_55 hsh) (c_X9_putsBack (d := 1) hsh) (by omega) (Nat.le_of_ble_eq_true rfl) (fun r S' I' hq => ?_)
        obtain ⟨rfl, rfl, rfl⟩ := hq
        have hM4 := hM3.back
        rw [eR] at hM4
        have hz4 := hM4.z hw
        refine P_aload0 (pc' := 50) dX9_takes_49 rfl ?_
        refine P_iload1 (pc' := 51) dX9_takes_50 rfl ?_
        refine P_iload2 (pc' := 52) dX9_takes_51 rfl ?_
        refine P_bipush (pc' := 54) dX9_takes_52 rfl (v := 10) rfl ?_
        refine P_callV3 (pc' := 57) dX9_takes_54 rfl lk_X9_85 (l_55 hsh) (t_55 hsh) (c_X9_comes (d := 2) (n := n) hsh hz4 hn (by omega)) (by omega) (Nat.le_of_ble_eq_true rfl) (fun r S' I' hq => ?_)
        obtain ⟨rfl, rfl, rfl⟩ := hq
        have hM5 := hM4.ps (cm_ps (k := k) (c := nI c') (s := 10) hn)
        rw [hM4.1] at hM5
        have hw5 : WA (aAdd (aR T) n k (nI c') 10) (n + 1) := aAdd_wa (s := 10) hw (by omega) (wi_k h6) (by omega) (by decide)
        refine P_istore5 (pc' := 59) dX9_takes_57 rfl (by decide) rfl ?_
        refine P_aload0 (pc' := 60) dX9_takes_59 rfl ?_
        refine P_iload3 (pc' := 61) dX9_takes_60 rfl ?_
        refine P_callV1 (pc' := 64) dX9_takes_61 rfl lk_X9_143 (l_55 hsh) (t_55 hsh) (c_X9_goesOn (d := 6) (n := n + 1) hsh (hM5.rt (by rw [aAdd_ne (by decide) (by omega), eR]) hr) hrd (by rw [hM5.1]; exact hw5) (by omega) (by omega)) (by omega) (Nat.le_of_ble_eq_true rfl) (fun r S6 I6 hq => ?_)
        obtain ⟨rfl, rfl, hP6⟩ := hq
        rw [hM5.1] at hP6
        have hM6 := hM5.ps hP6
        have hz6 := hM6.z (aHrs_wa hw5)
        refine P_aload0 (pc' := 65) dX9_takes_64 rfl ?_
        refine P_iconst (pc' := 66) dX9_takes_65 rfl (v := 3) rfl ?_
        refine P_callV1 (pc' := 69) dX9_takes_66 rfl lk_X9_140 (l_55 hsh) (t_55 hsh) (c_X9_sumOf (d := 2) (k := 3) hsh hz6 (by omega) (by decide) (by omega)) (by omega) (Nat.le_of_ble_eq_true rfl) (fun r S' I' hq => ?_)
        obtain ⟨rfl, rfl, rfl⟩ := hq
        refine P_aload0 (pc' := 70) dX9_takes_69 rfl ?_
        refine P_iload5 (pc' := 72) dX9_takes_70 rfl ?_
        refine P_iconst (pc' := 73) dX9_takes_72 rfl (v := 3) rfl ?_
        refine P_callV2 (pc' := 76) dX9_takes_73 rfl lk_X9_89 (l_55 hsh) (t_55 hsh) (c_X9_of (d := 0) (k := 3) hsh (by omega) (by omega)) (by omega) (Nat.le_of_ble_eq_true rfl) (fun r S' I' hq => ?_)
        obtain ⟨rfl, rfl, rfl⟩ := hq
        refine P_isub (pc' := 77) dX9_takes_76 rfl ?_
        refine P_istore6 (pc' := 79) dX9_takes_77 rfl (by decide) rfl ?_
        refine P_aload0 (pc' := 80) dX9_takes_79 rfl ?_
        refine P_callV0 (pc' := 83) dX9_takes_80 rfl lk_X9_159 (l_55 hsh) (t_55 hsh) (c_X9_putsBack (d := 1) hsh) (by omega) (Nat.le_of_ble_eq_true rfl) (fun r S' I' hq => ?_)
        obtain ⟨rfl, rfl, rfl⟩ := hq
        refine P_iload4 (pc' := 85) dX9_takes_83 rfl ?_
        refine P_iload6 (pc' := 87) dX9_takes_85 rfl ?_
        refine P_isub (pc' := 88) dX9_takes_87 rfl ?_
        refine P_iret dX9_takes_88 ?_
        rw [vTks_y h6 h13 h23 hw.1 (by omega) j2]
        show RO S I T _ (some (.int (aSum (aR I3) 19 n - (aSum (aR I6) 19 (n + 1) - I6 56 (16 + 5 * n + 3))))) S _
        rw [aR_rd I6 (by omega), hM3.1, hM6.1, show 16 + 5 * n + 3 = 19 + 5 * n by omega]
        exact hM6.back.fin hI
      · refine P_ldc (pc' := 28) dX9_takes_26 rfl co_X9_83 ?_
        refine P_iret dX9_takes_28 ?_
        first
          | (rw [show vTks (alX tn tx) (aR T) k c v = -1000000001 from if_pos h6]; exact RO.id hI)
          | (rw [show vTks (alX tn tx) (aR T) k c v = -1000000001 from (if_neg h6).trans (if_pos h13)]; exact RO.id hI)
          | (rw [show vTks (alX tn tx) (aR T) k c v = -1000000001 from (if_neg h6).trans ((if_neg h13).trans (if_pos h23))]; exact RO.id hI)

