/-! ===== calls, first the class's ===== -/
theorem CO.of {S : Shp} {I T : Mem} {tn bn : Nat} {tx : Nat → Tx} {o : Int32 × (Nat → Int32)} {v : Int32} (e : o = (v, aR T)) (h : K S I T tn bn tx) : CO I (nw T o.2) tn bn tx o.1 (some (.int v)) S I := by
  subst e
  show CO I (nw T (aR T)) tn bn tx v (some (.int v)) S I
  rw [nw_id]
  exact CO.id h
theorem CO.to {S : Shp} {I J T : Mem} {tn bn : Nat} {tx : Nat → Tx} {o : Int32 × (Nat → Int32)} {v : Int32} {A : Nat → Int32} (e : o = (v, A)) (h : K S I T tn bn tx) (hf : ∀ x, ¬ Scr x → (x = 0 ∨ 14 < x) → J x = I x) (ha : ∃ al, AlOk S J al) (h1 : aC 1 J = A) (hn : KN A) (h7 : A 7 = aR T 7) : CO I (nw T o.2) tn bn tx o.1 (some (.int v)) S J := by
  subst e
  exact CO.st h hf ha h1 hn h7
theorem RO.of {S : Shp} {T I : Mem} {o : Int32 × (Nat → Int32)} {v : Int32} (e : o = (v, aR T)) (h : RI T I) : RO S I (nw T o.2) o.1 (some (.int v)) S I := by
  subst e
  show RO S I (nw T (aR T)) v (some (.int v)) S I
  rw [nw_id]
  exact RO.id h
theorem RO.to {S : Shp} {T I J : Mem} {o : Int32 × (Nat → Int32)} {v : Int32} {A : Nat → Int32} (e : o = (v, A)) (h : RI T I) (hp : PsR I A J) : RO S I (nw T o.2) o.1 (some (.int v)) S J := by
  subst e
  exact RO.ps h hp
/-- one place of the street another -/
theorem CO.u {S : Shp} {I T : Mem} {tn bn : Nat} {tx : Nat → Tx} {o : Int32 × (Nat → Int32)} {v : Int32} {A : Nat → Int32} {x k : Nat} {y : Int32} (e : o = (v, A)) (h : K S I T tn bn tx) (hx1 : 1 ≤ x) (hx7 : x ≤ 7) (h1 : aC 1 (u2 I x k y) = A) (hn : KN A) (h7 : A 7 = aR T 7) : CO I (nw T o.2) tn bn tx o.1 (some (.int v)) S (u2 I x k y) := by
  refine CO.to e h (fun z _ hz => u2_row (by omega)) ?_ h1 hn h7
  obtain ⟨al, ha⟩ := h.2.2.2.2.2.1
  exact ⟨al, ha.mv (u2_row (by omega)) (fun z hz _ => u2_row (by omega))⟩
/-- what lies where, in the class -/
theorem K.rd {S : Shp} {I T : Mem} {tn bn : Nat} {tx : Nat → Tx} (h : K S I T tn bn tx) {j : Nat} (hj : j < 9) : I 3 j = aR T (16 + 5 * j) ∧ I 4 j = aR T (17 + 5 * j) ∧ I 5 j = aR T (18 + 5 * j) ∧ I 6 j = aR T (19 + 5 * j) ∧ I 7 j = aR T (20 + 5 * j) := by
  rw [← h.2.2.1]
  exact ⟨aC_rk (o := 1) I hj, aC_rc (o := 1) I hj, aC_rs (o := 1) I hj, aC_rp (o := 1) I hj, aC_rh (o := 1) I hj⟩
theorem K.sc {S : Shp} {I T : Mem} {tn bn : Nat} {tx : Nat → Tx} (h : K S I T tn bn tx) : I 1 12 = aR T 0 ∧ I 1 6 = aR T 1 ∧ I 1 11 = aR T 2 ∧ I 1 7 = aR T 3 ∧ I 1 8 = aR T 4 ∧ I 1 9 = aR T 5 ∧ I 1 10 = aR T 6 ∧ I 1 13 = aR T 7 := by
  rw [← h.2.2.1]
  exact ⟨rfl, rfl, rfl, rfl, rfl, rfl, rfl, rfl⟩
theorem K.rt {S : Shp} {I T : Mem} {tn bn : Nat} {tx : Nat → Tx} (h : K S I T tn bn tx) {j : Nat} (hj : j < 8) : I 2 j = aR T (8 + j) := by
  rw [← h.2.2.1]
  exact aC_rr (o := 1) I hj
theorem wi_b {v : Int32} {m : Nat} (hm : m ≤ 10000) (h : ¬ wi v 0 (nI m) = 0) : ∃ j, j ≤ m ∧ v = nI j := by
  have e : nI m = nI (m + 1) - 1 := (nI_pred m).symm
  rw [e] at h
  obtain ⟨h1, h2⟩ := z9 h
  rw [← e] at h2
  refine ⟨v.toNatClampNeg, ?_, i_nonneg h1⟩
  rw [i_nonneg h1] at h2
  have hb : v.toNatClampNeg < 2 ^ 31 := by
    have e : v.toNatClampNeg = v.toInt.toNat := rfl
    have := Int32.toInt_lt v
    omega
  exact (nI_leI hb (by omega)).mp h2
theorem wi_k {v : Int32} (h : ¬ wi v 0 5 = 0) : isK v := by
  obtain ⟨j, hj, rfl⟩ := wi_b (m := 5) (by decide) h
  have key : j = 0 ∨ j = 1 ∨ j = 2 ∨ j = 3 ∨ j = 4 ∨ j = 5 := by omega
  unfold isK
  rcases key with rfl | rfl | rfl | rfl | rfl | rfl <;> decide
theorem WA.wb {A : Nat → Int32} {n b : Nat} {v : Int32} (h : WA A n) (hb : b < 9) (hv : isK v) : WA (upd A (16 + 5 * b) v) n := by
  refine ⟨by rw [upd_n (by omega)]; exact h.1, h.2.1, by rw [upd_n (by omega)]; exact h.2.2.1, by rw [upd_n (by omega)]; exact h.2.2.2.1, fun c hc => ?_⟩
  obtain ⟨a1, a2, a3⟩ := h.2.2.2.2 c hc
  rw [upd_n (show 17 + 5 * c ≠ 16 + 5 * b by omega), upd_n (show 18 + 5 * c ≠ 16 + 5 * b by omega)]
  refine ⟨?_, a2, a3⟩
  by_cases q : c = b
  · rw [q, upd_s]; exact hv
  · rw [upd_n (by omega)]; exact a1
theorem WA.wc {A : Nat → Int32} {n b c : Nat} (h : WA A n) (hb : b < 9) (hc : c ≤ 8) : WA (upd A (17 + 5 * b) (nI c)) n := by
  refine ⟨by rw [upd_n (by omega)]; exact h.1, h.2.1, by rw [upd_n (by omega)]; exact h.2.2.1, by rw [upd_n (by omega)]; exact h.2.2.2.1, fun i hi => ?_⟩
  obtain ⟨a1, a2, a3⟩ := h.2.2.2.2 i hi
  rw [upd_n (show 16 + 5 * i ≠ 17 + 5 * b by omega), upd_n (show 18 + 5 * i ≠ 17 + 5 * b by omega)]
  refine ⟨a1, ?_, a3⟩
  by_cases q : i = b
  · rw [q, upd_s]; exact ⟨c, hc, rfl⟩
  · rw [upd_n (by omega)]; exact a2
theorem WA.ws {A : Nat → Int32} {n b s : Nat} (h : WA A n) (hb : b < 9) (hs : s ≤ 20) : WA (upd A (18 + 5 * b) (nI s)) n := by
  refine ⟨by rw [upd_n (by omega)]; exact h.1, h.2.1, by rw [upd_n (by omega)]; exact h.2.2.1, by rw [upd_n (by omega)]; exact h.2.2.2.1, fun i hi => ?_⟩
  obtain ⟨a1, a2, a3⟩ := h.2.2.2.2 i hi
  rw [upd_n (show 16 + 5 * i ≠ 18 + 5 * b by omega), upd_n (show 17 + 5 * i ≠ 18 + 5 * b by omega)]
  refine ⟨a1, a2, ?_⟩
  by_cases q : i = b
  · rw [q, upd_s]; exact ⟨s, hs, rfl⟩
  · rw [upd_n (by omega)]; exact a3
theorem WA.w4 {A : Nat → Int32} {n : Nat} {v : Int32} (h : WA A n) (hv : v = 0 ∨ v = 1) : WA (upd A 4 v) n := by
  refine ⟨by rw [upd_n (by omega)]; exact h.1, h.2.1, by rw [upd_s]; exact hv, by rw [upd_n (by omega)]; exact h.2.2.2.1, fun i hi => ?_⟩
  rw [upd_n (by omega), upd_n (by omega), upd_n (by omega)]
  exact h.2.2.2.2 i hi
theorem WA.w5 {A : Nat → Int32} {n f : Nat} (h : WA A n) (hf : f ≤ 8) : WA (upd A 5 (nI f)) n := by
  refine ⟨by rw [upd_n (by omega)]; exact h.1, h.2.1, by rw [upd_n (by omega)]; exact h.2.2.1, by rw [upd_s]; exact ⟨f, hf, rfl⟩, fun i hi => ?_⟩
  rw [upd_n (by omega), upd_n (by omega), upd_n (by omega)]
  exact h.2.2.2.2 i hi
theorem WA.w1 {A : Nat → Int32} {n m : Nat} (h : WA A n) (hm : m ≤ 9) : WA (upd A 1 (nI m)) m := by
  refine ⟨upd_s _ _ _, hm, by rw [upd_n (by omega)]; exact h.2.2.1, by rw [upd_n (by omega)]; exact h.2.2.2.1, fun i hi => ?_⟩
  rw [upd_n (by omega), upd_n (by omega), upd_n (by omega)]
  exact h.2.2.2.2 i hi
theorem WA.wo {A : Nat → Int32} {n i : Nat} {v : Int32} (h : WA A n) (h1 : i ≠ 1) (h4 : i ≠ 4) (h5 : i ≠ 5) (hi : i < 16 ∨ ∃ b, i = 19 + 5 * b ∨ i = 20 + 5 * b) : WA (upd A i v) n := h.up v h1 h4 h5 (fun b k _ hk => by rcases hi with hi | ⟨c, hi | hi⟩ <;> omega)
theorem aAdd_wa {A : Nat → Int32} {n c s : Nat} {k : Int32} (h : WA A n) (hn : n ≤ 8) (hk : isK k) (hc : c ≤ 8) (hs : s ≤ 20) : WA (aAdd A n k (nI c) (nI s)) (n + 1) :=
  (((((h.wb (by omega) hk).wc (by omega) hc).ws (by omega) hs).wo (by omega) (by omega) (by omega) (Or.inr ⟨n, Or.inl rfl⟩)).wo (by omega) (by omega) (by omega) (Or.inr ⟨n, Or.inr rfl⟩)).w1 (by omega)
theorem aAdd_ne {A : Nat → Int32} {n i : Nat} {k c s : Int32} (h1 : i ≠ 1) (h : i < 16 + 5 * n ∨ 20 + 5 * n < i) : aAdd A n k c s i = A i := by
  unfold aAdd
  rw [upd_n h1, upd_n (by omega), upd_n (by omega), upd_n (by omega), upd_n (by omega), upd_n (by omega)]
theorem aAdd_p {A : Nat → Int32} {n : Nat} {k c s : Int32} : aAdd A n k c s (19 + 5 * n) = 0 := by
  unfold aAdd
  rw [upd_n (by omega), upd_n (by omega), upd_s]
theorem aAdd_B {A : Nat → Int32} {n : Nat} {k c s : Int32} {M : Int} (h0 : 0 ≤ M) (h : BM A M) : BM (aAdd A n k c s) M := fun b hb => by
  by_cases q : b = n
  · rw [q, aAdd_p]; exact ⟨by show -M ≤ 0; omega, h0⟩
  · rw [aAdd_ne (by omega) (by omega)]; exact h b hb
theorem KN.add {A : Nat → Int32} {n c s : Nat} {k : Int32} (h : KN A) (hw : WA A n) (hn : n < 8) (hk : isK k) (hc : c ≤ 8) (hs : s ≤ 20) : KN (aAdd A n k (nI c) (nI s)) := by
  obtain ⟨-, ⟨g, hg, e, hb⟩, hr⟩ := h
  exact ⟨⟨n + 1, by omega, aAdd_wa hw (by omega) hk hc hs⟩, ⟨g, hg, by rw [aAdd_ne (by omega) (by omega)]; exact e, aAdd_B (by omega) hb⟩, fun c hc => by rw [aAdd_ne (by omega) (by omega)]; exact hr c hc⟩
def oBeg (A : Nat → Int32) (k c s : Int32) : Int32 × (Nat → Int32) := if wi k 0 5 = 0 then (-1000000001, A) else if wi c 0 8 = 0 then (-1000000001, A) else if wi s 0 20 = 0 then (-1000000001, A) else if A 1 = 8 then (-1000000003, A) else (A 1, aAdd A (A 1).toNatClampNeg k c s)
theorem x_beggar {G : GX} {S : Shp} {I T : Mem} {d tn bn : Nat} {tx : Nat → Tx} (hK : K S I T tn bn tx) (k c s : Int32) (hd : 12 ≤ d) : PM G yX8_beggar cX8_beggar 4 (some .int) d 0 0 [.ref 0, .int k, .int c, .int s] S I (CO I (nw T (oBeg (aR T) k c s).2) tn bn tx (oBeg (aR T) k c s).1) := by
  obtain ⟨n, hn, hw, hA, hz, ht⟩ := hK.n
  have hsh := hK.2.1
  refine PM.of (ls := [some (.ref 0), some (.int k), some (.int c), some (.int s)]) (by decide) rfl (Nat.le_of_ble_eq_true rfl) rfl ?_
  show PW G RX8 "beggar" _ _ _ _ _ _ _ _ _ _ _ _
  refine P_iload1 (pc' := 1) dX8_beggar_0 rfl ?_
  refine P_callS1 (pc' := 4) dX8_beggar_1 rfl lk_X8_73 (c_X8_isKind (d := 1) k (by omega)) (by omega) (Nat.le_of_ble_eq_true rfl) (fun r S' I' hq => ?_)
  obtain ⟨rfl, rfl, rfl⟩ := hq
  refine P_if_eq (tgt := 27) (pc' := 7) dX8_beggar_4 rfl rfl (fun h4 => ?_) (fun h4 => ?_)
  · refine P_ldc (pc' := 29) dX8_beggar_27 rfl co_X8_81 ?_
    refine P_iret dX8_beggar_29 ?_
    first
      | (refine CO.of ?_ hK; simp [oBeg, h4]; done)
      | (refine CO.of ?_ hK; simp [oBeg, h4, h14]; done)
      | (refine CO.of ?_ hK; simp [oBeg, h4, h14, h24]; done)
  · refine P_iload2 (pc' := 8) dX8_beggar_7 rfl ?_
    refine P_iconst (pc' := 9) dX8_beggar_8 rfl (v := 0) rfl ?_
    refine P_bipush (pc' := 11) dX8_beggar_9 rfl (v := 8) rfl ?_
    refine P_callS3 (pc' := 14) dX8_beggar_11 rfl lk_X8_77 (c_X8_wi (d := 0) c 0 8) (by omega) (Nat.le_of_ble_eq_true rfl) (fun r S' I' hq => ?_)
    obtain ⟨rfl, rfl, rfl⟩ := hq
    refine P_if_eq (tgt := 27) (pc' := 17) dX8_beggar_14 rfl rfl (fun h14 => ?_) (fun h14 => ?_)
    · refine P_ldc (pc' := 29) dX8_beggar_27 rfl co_X8_81 ?_
      refine P_iret dX8_beggar_29 ?_
      first
        | (refine CO.of ?_ hK; simp [oBeg, h4]; done)
        | (refine CO.of ?_ hK; simp [oBeg, h4, h14]; done)
        | (refine CO.of ?_ hK; simp [oBeg, h4, h14, h24]; done)
    · refine P_iload3 (pc' := 18) dX8_beggar_17 rfl ?_
      refine P_iconst (pc' := 19) dX8_beggar_18 rfl (v := 0) rfl ?_
      refine P_bipush (pc' := 21) dX8_beggar_19 rfl (v := 20) rfl ?_
      refine P_callS3 (pc' := 24) dX8_beggar_21 rfl lk_X8_77 (c_X8_wi (d := 0) s 0 20) (by omega) (Nat.le_of_ble_eq_true rfl) (fun r S' I' hq => ?_)
      obtain ⟨rfl, rfl, rfl⟩ := hq
      refine P_if_ne (tgt := 30) (pc' := 27) dX8_beggar_24 rfl rfl (fun h24 => ?_) (fun h24 => ?_)
      · refine P_aload0 (pc' := 31) dX8_beggar_30 rfl ?_
        refine P_getr (pc' := 34) dX8_beggar_31 rfl fl_X8_10 rfl (l_0 hsh) (t_0 hsh) (q_0_0 hsh) ?_
        refine P_geti (pc' := 37) dX8_beggar_34 rfl fl_X8_82 rfl (l_1 hsh) (t_1 hsh) ?_
        refine P_bipush (pc' := 39) dX8_beggar_37 rfl (v := 8) rfl ?_
        refine P_icmp_lt (tgt := 45) (pc' := 42) dX8_beggar_39 rfl rfl (fun h39 => ?_) (fun h39 => ?_)
        · have hn8 : n < 8 := by
            rw [hz] at h39
            have := (Int32.not_le.mpr h39)
            exact g0 (a := n) (b := 8) this (by omega) (by decide)
          obtain ⟨c', hc', rfl⟩ := wi_b (m := 8) (by decide) h14
          obtain ⟨s', hs', rfl⟩ := wi_b (m := 20) (by decide) h24 --go
          refine P_aload0 (pc' := 46) dX8_beggar_45 rfl ?_
          refine P_getr (pc' := 49) dX8_beggar_46 rfl fl_X8_10 rfl (l_0 hsh) (t_0 hsh) (q_0_0 hsh) ?_
          refine P_iload1 (pc' := 50) dX8_beggar_49 rfl ?_
          refine P_iload2 (pc' := 51) dX8_beggar_50 rfl ?_
          refine P_iload3 (pc' := 52) dX8_beggar_51 rfl ?_
          refine P_callV3 (pc' := 55) dX8_beggar_52 rfl lk_X8_86 (l_1 hsh) (t_1 hsh) (c_X5_add (d := 1) hsh (Or.inl rfl) hz hn (by omega)) (by omega) (Nat.le_of_ble_eq_true rfl) (fun r S' I' hq => ?_)
          obtain ⟨rfl, rfl, hJ, hF⟩ := hq
          refine P_iret dX8_beggar_55 ?_
          refine CO.to (A := aAdd (aR T) n k (nI c') (nI s')) ?_ hK (fun x _ hx => hF x (by omega)) ?_ (by rw [hJ, hA]) (hK.1.1.add hw hn8 (wi_k h4) hc' hs') (aAdd_ne (by decide) (by omega))
          · have e8 : ¬ nI n = 8 := fun z => absurd ((nI_eq (b := 8) (by omega) (by decide)).mp z) (by omega)
            simp [oBeg, h4, h14, h24, hw.1, e8, nI_clamp (show n < 2 ^ 31 by omega)]
          · obtain ⟨al, ha⟩ := hK.2.2.2.2.2.1
            exact ⟨al, hF.al (Or.inl rfl) ha⟩
        · refine P_ldc (pc' := 44) dX8_beggar_42 rfl co_X8_85 ?_
          refine P_iret dX8_beggar_44 ?_
          have hn8 : n = 8 := by
            rw [hz] at h39
            have : 8 ≤ n := g2 (a := n) (b := 8) (Int32.not_lt.mp h39) (by omega) (by decide)
            omega
          subst hn8
          refine CO.of ?_ hK
          simp [oBeg, h4, h14, h24, hw.1]
          exact fun z => absurd rfl z
      · refine P_ldc (pc' := 29) dX8_beggar_27 rfl co_X8_81 ?_
        refine P_iret dX8_beggar_29 ?_
        first
          | (refine CO.of ?_ hK; simp [oBeg, h4]; done)
          | (refine CO.of ?_ hK; simp [oBeg, h4, h14]; done)
          | (refine CO.of ?_ hK; simp [oBeg, h4, h14, h24]; done)
def vTold (A : Nat → Int32) (b y : Int32) : Int32 := if wi b 0 (A 1 - 1) = 0 then -1000000001 else if y = 0 then A (16 + 5 * b.toNatClampNeg) else if y = 1 then A (17 + 5 * b.toNatClampNeg) else if y = 2 then A (18 + 5 * b.toNatClampNeg) else if y = 3 then A (19 + 5 * b.toNatClampNeg) else if y = 4 then A (20 + 5 * b.toNatClampNeg) else if y = 5 then aAg A b.toNatClampNeg b.toNatClampNeg 0 else if y = 6 then kWorth (A (16 + 5 * b.toNatClampNeg)) (A (18 + 5 * b.toNatClampNeg)) else -1000000001
theorem x_told {G : GX} {S : Shp} {I T : Mem} {d tn bn : Nat} {tx : Nat → Tx} (hK : K S I T tn bn tx) (b y : Int32) (hd : 12 ≤ d) : PM G yX8_told cX8_told 3 (some .int) d 0 0 [.ref 0, .int b, .int y] S I (CO I T tn bn tx (vTold (aR T) b y)) := by
  obtain ⟨n, hn, hw, hA, hz, ht⟩ := hK.n
  have hsh := hK.2.1
  refine PM.of (ls := [some (.ref 0), some (.int b), some (.int y)]) (by decide) rfl (Nat.le_of_ble_eq_true rfl) rfl ?_
  show PW G RX8 "told" _ _ _ _ _ _ _ _ _ _ _ _
  by_cases hb : wi b 0 (nI n - 1) = 0
  · have e : vTold (aR T) b y = -1000000001 := by unfold vTold; rw [hw.1, if_pos hb]
    rw [e]
    refine P_aload0 (pc' := 1) dX8_told_0 rfl ?_
    refine P_iload1 (pc' := 2) dX8_told_1 rfl ?_
    refine P_callV1 (pc' := 5) dX8_told_2 rfl lk_X8_90 (l_0 hsh) (t_0 hsh) (c_X8_isBeggar (d := 1) b hsh hz (by omega)) (by omega) (Nat.le_of_ble_eq_true rfl) (fun r S' I' hq => ?_)
    obtain ⟨rfl, rfl, rfl⟩ := hq
    refine P_if_ne (tgt := 11) (pc' := 8) dX8_told_5 rfl rfl (fun h5 => ?_) (fun h5 => ?_)
    · exact absurd hb h5
    · refine P_ldc (pc' := 10) dX8_told_8 rfl co_X8_81 ?_
      refine P_iret dX8_told_10 ?_
      exact CO.id hK
  · obtain ⟨j, hj, rfl⟩ := wi_n (by omega) hb
    obtain ⟨r0, r1, r2, r3, r4⟩ := hK.rd (show j < 9 by omega)
    obtain ⟨k1, -, -⟩ := hw.2.2.2.2 j (by omega)
    have ej : (nI j).toNatClampNeg = j := nI_clamp (by omega)
    have e : vTold (aR T) (nI j) y = if y = 0 then aR T (16 + 5 * j) else if y = 1 then aR T (17 + 5 * j) else if y = 2 then aR T (18 + 5 * j) else if y = 3 then aR T (19 + 5 * j) else if y = 4 then aR T (20 + 5 * j) else if y = 5 then aAg (aR T) j j 0 else if y = 6 then kWorth (aR T (16 + 5 * j)) (aR T (18 + 5 * j)) else -1000000001 := by unfold vTold; rw [hw.1, if_neg hb, ej]
    rw [e]
    rcases sw_c y 6 with ⟨i, hi, rfl⟩ | hy
    · have key : i = 0 ∨ i = 1 ∨ i = 2 ∨ i = 3 ∨ i = 4 ∨ i = 5 ∨ i = 6 := by omega
      rcases key with rfl | rfl | rfl | rfl | rfl | rfl | rfl
      · show PW _ _ _ _ _ _ _ _ _ (CO I T tn bn tx (aR T (16 + 5 * j))) _ _ _ _ _
        refine P_aload0 (pc' := 1) dX8_told_0 rfl ?_
        refine P_iload1 (pc' := 2) dX8_told_1 rfl ?_
        refine P_callV1 (pc' := 5) dX8_told_2 rfl lk_X8_90 (l_0 hsh) (t_0 hsh) (c_X8_isBeggar (d := 1) (nI j) hsh hz (by omega)) (by omega) (Nat.le_of_ble_eq_true rfl) (fun r S' I' hq => ?_)
        obtain ⟨rfl, rfl, rfl⟩ := hq
        refine P_if_ne (tgt := 11) (pc' := 8) dX8_told_5 rfl rfl (fun h5 => ?_) (fun h5 => ?_)
        · refine P_iload2 (pc' := 12) dX8_told_11 rfl ?_
          refine P_tabIn (tgt := 56) dX8_told_12 (by decide) (by decide) rfl rfl ?_
          refine P_aload0 (pc' := 57) dX8_told_56 rfl ?_
          refine P_getr (pc' := 60) dX8_told_57 rfl fl_X8_10 rfl (l_0 hsh) (t_0 hsh) (q_0_0 hsh) ?_
          refine P_getr (pc' := 63) dX8_told_60 rfl fl_X8_93 rfl (l_1 hsh) (t_1 hsh) (q_1_1 hsh) ?_
          refine P_iload1 (pc' := 64) dX8_told_63 rfl ?_
          refine P_iald (pc' := 65) dX8_told_64 rfl (l_3 hsh) (t_3 hsh) (j := j) rfl (by omega) (by decide) ?_
          refine P_as r0 ?_
          refine P_iret dX8_told_65 ?_
          exact CO.id hK
        · exact absurd h5 hb
      · show PW _ _ _ _ _ _ _ _ _ (CO I T tn bn tx (aR T (17 + 5 * j))) _ _ _ _ _
        refine P_aload0 (pc' := 1) dX8_told_0 rfl ?_
        refine P_iload1 (pc' := 2) dX8_told_1 rfl ?_
        refine P_callV1 (pc' := 5) dX8_told_2 rfl lk_X8_90 (l_0 hsh) (t_0 hsh) (c_X8_isBeggar (d := 1) (nI j) hsh hz (by omega)) (by omega) (Nat.le_of_ble_eq_true rfl) (fun r S' I' hq => ?_)
        obtain ⟨rfl, rfl, rfl⟩ := hq
        refine P_if_ne (tgt := 11) (pc' := 8) dX8_told_5 rfl rfl (fun h5 => ?_) (fun h5 => ?_)
        · refine P_iload2 (pc' := 12) dX8_told_11 rfl ?_
          refine P_tabIn (tgt := 66) dX8_told_12 (by decide) (by decide) rfl rfl ?_
          refine P_aload0 (pc' := 67) dX8_told_66 rfl ?_
          refine P_getr (pc' := 70) dX8_told_67 rfl fl_X8_10 rfl (l_0 hsh) (t_0 hsh) (q_0_0 hsh) ?_
          refine P_getr (pc' := 73) dX8_told_70 rfl fl_X8_96 rfl (l_1 hsh) (t_1 hsh) (q_1_2 hsh) ?_
          refine P_iload1 (pc' := 74) dX8_told_73 rfl ?_
          refine P_iald (pc' := 75) dX8_told_74 rfl (l_4 hsh) (t_4 hsh) (j := j) rfl (by omega) (by decide) ?_
          refine P_as r1 ?_
          refine P_iret dX8_told_75 ?_
          exact CO.id hK
        · exact absurd h5 hb
      · show PW _ _ _ _ _ _ _ _ _ (CO I T tn bn tx (aR T (18 + 5 * j))) _ _ _ _ _
        refine P_aload0 (pc' := 1) dX8_told_0 rfl ?_
        refine P_iload1 (pc' := 2) dX8_told_1 rfl ?_
        refine P_callV1 (pc' := 5) dX8_told_2 rfl lk_X8_90 (l_0 hsh) (t_0 hsh) (c_X8_isBeggar (d := 1) (nI j) hsh hz (by omega)) (by omega) (Nat.le_of_ble_eq_true rfl) (fun r S' I' hq => ?_)
        obtain ⟨rfl, rfl, rfl⟩ := hq
        refine P_if_ne (tgt := 11) (pc' := 8) dX8_told_5 rfl rfl (fun h5 => ?_) (fun h5 => ?_)
        · refine P_iload2 (pc' := 12) dX8_told_11 rfl ?_
          refine P_tabIn (tgt := 76) dX8_told_12 (by decide) (by decide) rfl rfl ?_
          refine P_aload0 (pc' := 77) dX8_told_76 rfl ?_
          refine P_getr (pc' := 80) dX8_told_77 rfl fl_X8_10 rfl (l_0 hsh) (t_0 hsh) (q_0_0 hsh) ?_
          refine P_getr (pc' := 83) dX8_told_80 rfl fl_X8_99 rfl (l_1 hsh) (t_1 hsh) (q_1_3 hsh) ?_
          refine P_iload1 (pc' := 84) dX8_told_83 rfl ?_
          refine P_iald (pc' := 85) dX8_told_84 rfl (l_5 hsh) (t_5 hsh) (j := j) rfl (by omega) (by decide) ?_
          refine P_as r2 ?_
          refine P_iret dX8_told_85 ?_
          exact CO.id hK
        · exact absurd h5 hb
      · show PW _ _ _ _ _ _ _ _ _ (CO I T tn bn tx (aR T (19 + 5 * j))) _ _ _ _ _
        refine P_aload0 (pc' := 1) dX8_told_0 rfl ?_
        refine P_iload1 (pc' := 2) dX8_told_1 rfl ?_
        refine P_callV1 (pc' := 5) dX8_told_2 rfl lk_X8_90 (l_0 hsh) (t_0 hsh) (c_X8_isBeggar (d := 1) (nI j) hsh hz (by omega)) (by omega) (Nat.le_of_ble_eq_true rfl) (fun r S' I' hq => ?_)
        obtain ⟨rfl, rfl, rfl⟩ := hq
        refine P_if_ne (tgt := 11) (pc' := 8) dX8_told_5 rfl rfl (fun h5 => ?_) (fun h5 => ?_)
        · refine P_iload2 (pc' := 12) dX8_told_11 rfl ?_
          refine P_tabIn (tgt := 86) dX8_told_12 (by decide) (by decide) rfl rfl ?_
          refine P_aload0 (pc' := 87) dX8_told_86 rfl ?_
          refine P_getr (pc' := 90) dX8_told_87 rfl fl_X8_10 rfl (l_0 hsh) (t_0 hsh) (q_0_0 hsh) ?_
          refine P_getr (pc' := 93) dX8_told_90 rfl fl_X8_102 rfl (l_1 hsh) (t_1 hsh) (q_1_4 hsh) ?_
          refine P_iload1 (pc' := 94) dX8_told_93 rfl ?_
          refine P_iald (pc' := 95) dX8_told_94 rfl (l_6 hsh) (t_6 hsh) (j := j) rfl (by omega) (by decide) ?_
          refine P_as r3 ?_
          refine P_iret dX8_told_95 ?_
          exact CO.id hK
        · exact absurd h5 hb
      · show PW _ _ _ _ _ _ _ _ _ (CO I T tn bn tx (aR T (20 + 5 * j))) _ _ _ _ _
        refine P_aload0 (pc' := 1) dX8_told_0 rfl ?_
        refine P_iload1 (pc' := 2) dX8_told_1 rfl ?_
        refine P_callV1 (pc' := 5) dX8_told_2 rfl lk_X8_90 (l_0 hsh) (t_0 hsh) (c_X8_isBeggar (d := 1) (nI j) hsh hz (by omega)) (by omega) (Nat.le_of_ble_eq_true rfl) (fun r S' I' hq => ?_)
        obtain ⟨rfl, rfl, rfl⟩ := hq
        refine P_if_ne (tgt := 11) (pc' := 8) dX8_told_5 rfl rfl (fun h5 => ?_) (fun h5 => ?_)
        · refine P_iload2 (pc' := 12) dX8_told_11 rfl ?_
          refine P_tabIn (tgt := 96) dX8_told_12 (by decide) (by decide) rfl rfl ?_
          refine P_aload0 (pc' := 97) dX8_told_96 rfl ?_
          refine P_getr (pc' := 100) dX8_told_97 rfl fl_X8_10 rfl (l_0 hsh) (t_0 hsh) (q_0_0 hsh) ?_
          refine P_getr (pc' := 103) dX8_told_100 rfl fl_X8_105 rfl (l_1 hsh) (t_1 hsh) (q_1_5 hsh) ?_
          refine P_iload1 (pc' := 104) dX8_told_103 rfl ?_
          refine P_iald (pc' := 105) dX8_told_104 rfl (l_7 hsh) (t_7 hsh) (j := j) rfl (by omega) (by decide) ?_
          refine P_as r4 ?_
          refine P_iret dX8_told_105 ?_
          exact CO.id hK
        · exact absurd h5 hb
      · show PW _ _ _ _ _ _ _ _ _ (CO I T tn bn tx (aAg (aR T) j j 0)) _ _ _ _ _
        refine P_aload0 (pc' := 1) dX8_told_0 rfl ?_
        refine P_iload1 (pc' := 2) dX8_told_1 rfl ?_
        refine P_callV1 (pc' := 5) dX8_told_2 rfl lk_X8_90 (l_0 hsh) (t_0 hsh) (c_X8_isBeggar (d := 1) (nI j) hsh hz (by omega)) (by omega) (Nat.le_of_ble_eq_true rfl) (fun r S' I' hq => ?_)
        obtain ⟨rfl, rfl, rfl⟩ := hq
        refine P_if_ne (tgt := 11) (pc' := 8) dX8_told_5 rfl rfl (fun h5 => ?_) (fun h5 => ?_)
        · refine P_iload2 (pc' := 12) dX8_told_11 rfl ?_
          refine P_tabIn (tgt := 106) dX8_told_12 (by decide) (by decide) rfl rfl ?_
          refine P_aload0 (pc' := 107) dX8_told_106 rfl ?_
          refine P_getr (pc' := 110) dX8_told_107 rfl fl_X8_10 rfl (l_0 hsh) (t_0 hsh) (q_0_0 hsh) ?_
          refine P_iload1 (pc' := 111) dX8_told_110 rfl ?_
          refine P_callV1 (pc' := 114) dX8_told_111 rfl lk_X8_108 (l_1 hsh) (t_1 hsh) (c_X5_isAgainstLaw (d := 2) (n := n) hsh (Or.inl rfl) hz (by omega) hj (by omega)) (by omega) (Nat.le_of_ble_eq_true rfl) (fun r S' I' hq => ?_)
          obtain ⟨rfl, rfl, rfl⟩ := hq
          refine P_if_eq (tgt := 121) (pc' := 117) dX8_told_114 rfl rfl (fun h114 => ?_) (fun h114 => ?_)
          · refine P_iconst (pc' := 122) dX8_told_121 rfl (v := 0) rfl ?_
            refine P_iret dX8_told_122 ?_
            rw [hA] at h114
            first
              | (rw [show aAg (aR T) j j 0 = 0 from h114]; exact CO.id hK)
              | (rw [show aAg (aR T) j j 0 = 1 from (aAg_01 _ _ _ _).resolve_left h114]; exact CO.id hK)
          · refine P_iconst (pc' := 118) dX8_told_117 rfl (v := 1) rfl ?_
            refine P_goto (tgt := 122) dX8_told_118 rfl ?_
            refine P_iret dX8_told_122 ?_
            rw [hA] at h114
            first
              | (rw [show aAg (aR T) j j 0 = 0 from h114]; exact CO.id hK)
              | (rw [show aAg (aR T) j j 0 = 1 from (aAg_01 _ _ _ _).resolve_left h114]; exact CO.id hK)
        · exact absurd h5 hb
      · show PW _ _ _ _ _ _ _ _ _ (CO I T tn bn tx (kWorth (aR T (16 + 5 * j)) (aR T (18 + 5 * j)))) _ _ _ _ _
        refine P_aload0 (pc' := 1) dX8_told_0 rfl ?_
        refine P_iload1 (pc' := 2) dX8_told_1 rfl ?_
        refine P_callV1 (pc' := 5) dX8_told_2 rfl lk_X8_90 (l_0 hsh) (t_0 hsh) (c_X8_isBeggar (d := 1) (nI j) hsh hz (by omega)) (by omega) (Nat.le_of_ble_eq_true rfl) (fun r S' I' hq => ?_)
        obtain ⟨rfl, rfl, rfl⟩ := hq
        refine P_if_ne (tgt := 11) (pc' := 8) dX8_told_5 rfl rfl (fun h5 => ?_) (fun h5 => ?_)
        · refine P_iload2 (pc' := 12) dX8_told_11 rfl ?_
          refine P_tabIn (tgt := 123) dX8_told_12 (by decide) (by decide) rfl rfl ?_
          refine P_aload0 (pc' := 124) dX8_told_123 rfl ?_
          refine P_getr (pc' := 127) dX8_told_124 rfl fl_X8_10 rfl (l_0 hsh) (t_0 hsh) (q_0_0 hsh) ?_
          refine P_getr (pc' := 130) dX8_told_127 rfl fl_X8_93 rfl (l_1 hsh) (t_1 hsh) (q_1_1 hsh) ?_
          refine P_iload1 (pc' := 131) dX8_told_130 rfl ?_
          refine P_iald (pc' := 132) dX8_told_131 rfl (l_3 hsh) (t_3 hsh) (j := j) rfl (by omega) (by decide) ?_
          refine P_as r0 ?_
          refine P_aload0 (pc' := 133) dX8_told_132 rfl ?_
          refine P_getr (pc' := 136) dX8_told_133 rfl fl_X8_10 rfl (l_0 hsh) (t_0 hsh) (q_0_0 hsh) ?_
          refine P_getr (pc' := 139) dX8_told_136 rfl fl_X8_99 rfl (l_1 hsh) (t_1 hsh) (q_1_3 hsh) ?_
          refine P_iload1 (pc' := 140) dX8_told_139 rfl ?_
          refine P_iald (pc' := 141) dX8_told_140 rfl (l_5 hsh) (t_5 hsh) (j := j) rfl (by omega) (by decide) ?_
          refine P_as r2 ?_
          refine P_callS2 (pc' := 144) dX8_told_141 rfl lk_X8_111 (c_X1_worth (d := 1) _ _ k1) (by omega) (Nat.le_of_ble_eq_true rfl) (fun r S' I' hq => ?_)
          obtain ⟨rfl, rfl, rfl⟩ := hq
          refine P_iret dX8_told_144 ?_
          exact CO.id hK
        · exact absurd h5 hb
    · have e0 : ∀ i : Nat, i ≤ 6 → ¬ y = nI i := fun i hi z => by rw [z, nI_toInt (by omega)] at hy; omega
      rw [if_neg (show ¬ y = 0 from e0 0 (by decide)), if_neg (show ¬ y = 1 from e0 1 (by decide)), if_neg (show ¬ y = 2 from e0 2 (by decide)), if_neg (show ¬ y = 3 from e0 3 (by decide)), if_neg (show ¬ y = 4 from e0 4 (by decide)), if_neg (show ¬ y = 5 from e0 5 (by decide)), if_neg (show ¬ y = 6 from e0 6 (by decide))]
      refine P_aload0 (pc' := 1) dX8_told_0 rfl ?_
      refine P_iload1 (pc' := 2) dX8_told_1 rfl ?_
      refine P_callV1 (pc' := 5) dX8_told_2 rfl lk_X8_90 (l_0 hsh) (t_0 hsh) (c_X8_isBeggar (d := 1) (nI j) hsh hz (by omega)) (by omega) (Nat.le_of_ble_eq_true rfl) (fun r S' I' hq => ?_)
      obtain ⟨rfl, rfl, rfl⟩ := hq
      refine P_if_ne (tgt := 11) (pc' := 8) dX8_told_5 rfl rfl (fun h5 => ?_) (fun h5 => ?_)
      · refine P_iload2 (pc' := 12) dX8_told_11 rfl ?_
        refine P_tabOut (tgt := 145) dX8_told_12 hy rfl ?_
        refine P_ldc (pc' := 147) dX8_told_145 rfl co_X8_81 ?_
        refine P_iret dX8_told_147 ?_
        exact CO.id hK
      · exact absurd h5 hb

