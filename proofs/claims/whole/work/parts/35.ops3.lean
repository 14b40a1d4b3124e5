theorem K.fx {S : Shp} {I T : Mem} {tn bn : Nat} {tx : Nat → Tx} (h : K S I T tn bn tx) {k m : Nat} (a : Nat) (e : ctP S tx k m = some a) (hm : m ≤ tn := by exact Nat.le_refl _) : a < S.1 := by
  unfold ctP at e
  cases hl : lastK tx k m with
  | none => rw [hl] at e; cases e
  | some t =>
    rw [hl] at e
    have ht := lastK_lt hl
    obtain ⟨p, p1, p2, -⟩ := h.2.2.2.2.1.2 t (by omega)
    have e2 : S.2.2 26 t = some a := e
    rw [p1] at e2
    cases e2
    have := p2.2.2.1
    omega
theorem K.fy {S : Shp} {I T : Mem} {tn bn : Nat} {tx : Nat → Tx} (h : K S I T tn bn tx) (a : Nat) (e : S.2.2 27 0 = some a) : a < S.1 := by
  obtain ⟨al, ha⟩ := h.2.2.2.2.2.1
  rcases ha with ⟨h0, -⟩ | ⟨t', len, sz, st, a1, a2, -⟩
  · rw [h0] at e; cases e
  · rw [a1] at e; cases e
    have := a2.2.2.1
    omega
theorem fol_all {S S' : Shp} {I I' T : Mem} {tn bn m : Nat} {tx : Nat → Tx} (h : K S I T tn bn tx) (hm : m ≤ tn) (e1 : (m0_follow S I (ctP S tx 0 m)).1 = S') (e2 : (m0_follow S I (ctP S tx 0 m)).2 = I') : K S' I' T tn bn tx ∧ AlOk S' I' (alX m tx) ∧ ∀ x, x ≠ 28 → I' x = I x := by
  subst e1
  subst e2
  obtain ⟨hT, c1, c2, ⟨c3, c4⟩, c5, c6, c7, c8, c9, c10⟩ := h
  have hal := fol (m := m) c5 hT.2.1.2 hm c6
  have hx : ∀ x, x ≠ 28 → (m0_follow S I (ctP S tx 0 m)).2 x = I x := fun x hx => fol_I hx
  refine ⟨⟨hT, fol_H c1, ?_, ⟨?_, fun z => ?_⟩, fol_T c5, ⟨_, hal⟩, ?_, ?_, ?_, ?_⟩, hal, hx⟩
  · rw [aC_out (fun x h1 h2 => hx x (by omega))]; exact c2
  · rw [hx 0 (by decide)]; exact c3
  · rw [aC_out (fun x h1 h2 => hx x (by omega))]; exact c4 z
  · intro i hi
    rw [hx (32 + 2 * i) (by omega), hx (33 + 2 * i) (by omega)]
    exact c7 i hi
  · intro i hi
    rw [hx (40 + 3 * i) (by omega), hx (41 + 3 * i) (by omega), hx (42 + 3 * i) (by omega)]
    exact c8 i hi
  · unfold CW
    rw [hx 0 (by decide), hx 31 (by decide)]
    exact c9
  · unfold CP
    rw [hx 23 (by decide), hx 24 (by decide)]
    exact c10
theorem K.ps {S : Shp} {I J T : Mem} {tn bn : Nat} {tx : Nat → Tx} {A : Nat → Int32} {al : Int32 → Int32 → Int32 → Int32} (h : K S I T tn bn tx) (hP : Pst 1 S I al A J) (hn : KN A) (h7 : A 7 = aR T 7) : K S J (nw T A) tn bn tx := h.st (fun x h1 h2 => hP.2.2 x h1 (by omega)) ⟨_, hP.2.1⟩ hP.1 hn h7
theorem K.p8 {S : Shp} {I J T : Mem} {tn bn : Nat} {tx : Nat → Tx} {A : Nat → Int32} {al : Int32 → Int32 → Int32 → Int32} (h : K S I T tn bn tx) (hP : Pst 8 S I al A J) : K S J T tn bn tx := h.th (fun x h1 h2 => hP.2.2 x h1 (by omega)) ⟨_, hP.2.1⟩
/-- what is only thought begins from now -/
def TH (S : Shp) (I T : Mem) (tn bn : Nat) (tx : Nat → Tx) (A : Nat → Int32) (S' : Shp) (I' : Mem) : Prop := K S' I' T tn bn tx ∧ AlOk S' I' (alX tn tx) ∧ aC 8 I' = A ∧ ∀ x, 55 ≤ x → x < 77 → I' x = I x
theorem c_X8_think {G : GX} {S : Shp} {I T : Mem} {d tn bn : Nat} {tx : Nat → Tx} (hK : K S I T tn bn tx) (hd : 5 ≤ d) : PM G yX8_think cX8_think 1 none d 0 0 [.ref 0] S I (fun r S' I' => r = none ∧ TH S I T tn bn tx (aR T) S' I') := by
  obtain ⟨n, hn, hw, hA, hz, ht⟩ := hK.n
  have hsh := hK.2.1
  refine PM.of (ls := [some (.ref 0)]) (by decide) rfl (Nat.le_of_ble_eq_true rfl) rfl ?_
  show PW G RX8 "think" _ _ _ _ _ _ _ _ _ _ _ _
  refine P_aload0 (pc' := 1) dX8_think_0 rfl ?_
  refine P_getr (pc' := 4) dX8_think_1 rfl fl_X8_16 rfl (l_0 hsh) (t_0 hsh) (q_0_1 hsh) ?_
  refine P_aload0 (pc' := 5) dX8_think_4 rfl ?_
  refine P_getr (pc' := 8) dX8_think_5 rfl fl_X8_10 rfl (l_0 hsh) (t_0 hsh) (q_0_0 hsh) ?_
  refine P_callV1 (pc' := 11) dX8_think_8 rfl lk_X8_295 (l_8 hsh) (t_8 hsh) (c_X5_become (d := 3) hsh (Or.inr (Or.inl rfl)) (Or.inl rfl) (by decide) (by rw [hK.sc.2.2.2.2.1]; exact hw.2.2.1) (by omega)) (by omega) (Nat.le_of_ble_eq_true rfl) (fun r S' I' hq => ?_)
  obtain ⟨rfl, rfl, hJ, hF⟩ := hq
  have hF2 : ∀ x, ¬ Scr x → (x < 8 ∨ 14 < x) → I' x = I x := fun x _ hx => hF x (by omega)
  have hK1 : K S I' T tn bn tx := hK.th hF2 (by obtain ⟨al, ha⟩ := hK.2.2.2.2.2.1; exact ⟨al, hF.al (Or.inr (Or.inl rfl)) ha⟩)
  refine P_aload0 (pc' := 12) dX8_think_11 rfl ?_
  refine P_getr (pc' := 15) dX8_think_12 rfl fl_X8_47 rfl (l_0 hsh) (t_0 hsh) (q_0_7 hsh) ?_
  refine P_aload0 (pc' := 16) dX8_think_15 rfl ?_
  refine P_iconst (pc' := 17) dX8_think_16 rfl (v := 0) rfl ?_
  refine P_aload0 (pc' := 18) dX8_think_17 rfl ?_
  refine P_getr (pc' := 21) dX8_think_18 rfl fl_X8_10 rfl (l_0 hsh) (t_0 hsh) (q_0_0 hsh) ?_
  refine P_geti (pc' := 24) dX8_think_21 rfl fl_X8_117 rfl (l_1 hsh) (t_1 hsh) ?_
  refine P_as (show I' 1 13 = nI tn by rw [hF 1 (by omega)]; exact ht) ?_
  refine P_callV2 (pc' := 27) dX8_think_24 rfl lk_X8_119 (l_0 hsh) (t_0 hsh) (c_X8_counting (d := 3) (k := 0) hsh hK1.2.2.2.2.1 (by decide) (Nat.le_refl tn) (by omega)) (by omega) (Nat.le_of_ble_eq_true rfl) (fun r S' I' hq => ?_)
  obtain ⟨rfl, rfl, rfl⟩ := hq
  refine P_callV1 (pc' := 30) dX8_think_27 rfl lk_X8_123 (l_27 hsh) (t_27 hsh) (c_X0_follow (d := 1) (ctP S tx 0 tn) hsh hK1.fx hK1.fy (by omega)) (by omega) (Nat.le_of_ble_eq_true rfl) (fun r S2 I2 hq => ?_); obtain ⟨rfl, hS2, hI2⟩ := hq; obtain ⟨hK2, hal2, hf2⟩ := fol_all hK1 (Nat.le_refl tn) hS2 hI2
  refine P_vret dX8_think_30 ?_
  refine ⟨rfl, hK2, hal2, ?_, fun x h1 h2 => ?_⟩
  · rw [aC_out (fun x h1 h2 => hf2 x (by omega)), hJ, hA]
  · rw [hf2 x (by omega), hF x (by omega)]
theorem wi_b1 {v : Int32} {m : Nat} (hm : m ≤ 10000) (h : ¬ wi v 1 (nI m) = 0) : ∃ j, 1 ≤ j ∧ j ≤ m ∧ v = nI j := by
  obtain ⟨h1, h2⟩ := z9 h
  have h0 : (0 : Int32) ≤ v := Int32.le_trans (by decide) h1
  have hb : v.toNatClampNeg < 2 ^ 31 := by
    have e : v.toNatClampNeg = v.toInt.toNat := rfl
    have := Int32.toInt_lt v
    omega
  rw [i_nonneg h0] at h1 h2
  exact ⟨v.toNatClampNeg, g2 (a := v.toNatClampNeg) (b := 1) h1 hb (by decide), (nI_leI hb (by omega)).mp h2, i_nonneg h0⟩

