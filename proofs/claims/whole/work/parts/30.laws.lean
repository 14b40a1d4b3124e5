/-! the class's law is the reference's -/
def puN (cd : Nat → Int32) : Nat → Nat → Nat
  | 0, _ => 0
  | n + 1, i => (if cd i < 0 then 0 else 1) + puN cd n (i + 1)
theorem puN_s (cd : Nat → Int32) (n i : Nat) : puN cd (n + 1) i = (if cd i < 0 then 0 else 1) + puN cd n (i + 1) := rfl
theorem gvS_wo {fc : Nat → Int32} {k : Int32} {tp sz : Nat} {st : Nat → Int32} (hk : okS k tp) (hs : ¬ k < 0 → tp < sz) : gvS (fc 0) (fc 1) (fc 2) sz (enS k) (tp, st) = woS fc k (tp, st) := by
  unfold okS at hk
  by_cases k0 : k < 0
  · rw [if_pos k0] at hk
    by_cases k1 : k = -10
    · rw [if_pos k1] at hk
      subst k1
      unfold gvS woS
      dsimp only
      rw [show enS (-10) = -33 from by decide, if_pos (by decide), if_pos rfl, if_neg (by omega), if_pos k0, if_pos rfl]
    · rw [if_neg k1] at hk
      obtain ⟨h2, hS⟩ := hk
      have key : ∀ z y : Int32, (y < -3) → ¬ y = -33 → -y = cz z → z < 0 → ¬ z = -10 → enS z = y → gvS (fc 0) (fc 1) (fc 2) sz (enS z) (tp, st) = woS fc z (tp, st) := by
        intro z y a1 a2 a3 a4 a5 a6
        unfold gvS woS
        dsimp only
        rw [a6, if_pos a1, if_neg a2, if_neg (by omega), if_pos a4, if_neg a5, a3]
      rcases hS with rfl | rfl | rfl | rfl | rfl | rfl | rfl | rfl | rfl
      · exact key _ (-124) (by decide) (by decide) (by decide) (by decide) (by decide) (by decide)
      · exact key _ (-38) (by decide) (by decide) (by decide) (by decide) (by decide) (by decide)
      · exact key _ (-60) (by decide) (by decide) (by decide) (by decide) (by decide) (by decide)
      · exact key _ (-61) (by decide) (by decide) (by decide) (by decide) (by decide) (by decide)
      · exact key _ (-62) (by decide) (by decide) (by decide) (by decide) (by decide) (by decide)
      · exact key _ (-43) (by decide) (by decide) (by decide) (by decide) (by decide) (by decide)
      · exact key _ (-45) (by decide) (by decide) (by decide) (by decide) (by decide) (by decide)
      · exact key _ (-42) (by decide) (by decide) (by decide) (by decide) (by decide) (by decide)
      · exact key _ (-47) (by decide) (by decide) (by decide) (by decide) (by decide) (by decide)
  · rw [if_neg k0] at hk
    have hlt := hs k0
    by_cases k2 : 10000 ≤ k
    · obtain ⟨j, hj, e⟩ := hk.2 k2
      have key : j = 0 ∨ j = 1 ∨ j = 2 := by omega
      have go : ∀ (z y : Int32) (v : Int32) (i : Nat), enS z = y → ¬ y < -3 → y < 0 → (if y = -1 then fc 0 else if y = -2 then fc 1 else fc 2) = fc i → (z - 10000).toNatClampNeg = i → ¬ z < 0 → 10000 ≤ z → gvS (fc 0) (fc 1) (fc 2) sz (enS z) (tp, st) = woS fc z (tp, st) := by
        intro z y v i a1 a2 a3 a4 a5 a6 a7
        unfold gvS woS
        dsimp only
        rw [a1, if_neg a2, if_pos hlt, if_pos a3, a4, if_neg a6, if_pos a7, a5]
      subst e
      rcases key with rfl | rfl | rfl
      · exact go _ (-1) 0 0 (by decide) (by decide) (by decide) (by simp) (by decide) (by decide) (by decide)
      · exact go _ (-2) 0 1 (by decide) (by decide) (by decide) (by simp) (by decide) (by decide) (by decide)
      · exact go _ (-3) 0 2 (by decide) (by decide) (by decide) (by simp) (by decide) (by decide) (by decide)
    · have e1 : enS k = k := by unfold enS; rw [if_neg k0, if_neg k2]
      have e3 : ¬ k < -3 := fun z => k0 (Int32.lt_trans z (by decide))
      unfold gvS woS
      dsimp only
      rw [e1, if_neg e3, if_pos hlt, if_neg k0, if_neg k0, if_neg k2]
theorem gvG_wo {fc cd : Nat → Int32} {sz : Nat} : ∀ (n i tp : Nat) (st : Nat → Int32), OkC cd n i tp → tp + puN cd n i ≤ sz → gvG (fc 0) (fc 1) (fc 2) sz (fun k => enS (cd k)) n i (tp, st) = woG fc cd n i (tp, st) := by
  intro n
  induction n with
  | zero => intro i tp st _ _; rfl
  | succ n ih =>
    intro i tp st hok hsz
    rw [puN_s] at hsz
    rw [woG_s]
    show gvG (fc 0) (fc 1) (fc 2) sz (fun k => enS (cd k)) n (i + 1) (gvS (fc 0) (fc 1) (fc 2) sz (enS (cd i)) (tp, st)) = _
    rw [gvS_wo hok.1 (fun z => by rw [if_neg z] at hsz; omega)]
    have e1 : woS fc (cd i) (tp, st) = (dpS (cd i) tp, (woS fc (cd i) (tp, st)).2) := Prod.ext (woS_1 _ _ _) rfl
    rw [e1]
    refine ih _ _ _ hok.2 ?_
    unfold dpS
    split
    · rename_i z
      rw [if_pos z] at hsz
      split <;> omega
    · rename_i z
      rw [if_neg z] at hsz
      omega
theorem woG_ind2 {fc fc' cd : Nat → Int32} (hf : ∀ j, j < 2 → fc j = fc' j) : ∀ (n i tp : Nat) (st : Nat → Int32), OkC cd n i tp → (∀ k, i ≤ k → k < i + n → cd k ≠ nI 10002) → woG fc cd n i (tp, st) = woG fc' cd n i (tp, st) := by
  intro n
  induction n with
  | zero => intro i tp st _ _; rfl
  | succ n ih =>
    intro i tp st hok h2
    rw [woG_s, woG_s]
    have e0 : woS fc (cd i) (tp, st) = woS fc' (cd i) (tp, st) := by
      have hk := hok.1
      unfold okS at hk
      unfold woS
      by_cases k0 : cd i < 0
      · rw [if_pos k0, if_pos k0]
      · rw [if_neg k0, if_neg k0]
        rw [if_neg k0] at hk
        by_cases k2 : 10000 ≤ cd i
        · rw [if_pos k2, if_pos k2]
          obtain ⟨j, hj, e⟩ := hk.2 k2
          have hj2 : j ≠ 2 := fun z => h2 i (by omega) (by omega) (by rw [e, z])
          rw [e, show (10000 : Int32) = nI 10000 from rfl, pk_sub (by omega), nI_clamp (by omega), hf _ (by omega)]
        · rw [if_neg k2, if_neg k2]
    rw [e0]
    have e1 : woS fc' (cd i) (tp, st) = (dpS (cd i) tp, (woS fc' (cd i) (tp, st)).2) := Prod.ext (woS_1 _ _ _) rfl
    rw [e1]
    exact ih _ _ _ hok.2 (fun k h3 h4 => h2 k (by omega) (by omega))
/-- what a law must be -/
def KP (x : Tx) : Prop := 1 ≤ dpN x.2.2.2 x.2.1 0 0 ∧ x.2.2.1 = puN x.2.2.2 x.2.1 0 ∧ (x.1 = 0 ∨ ∀ k, k < x.2.1 → x.2.2.2 k ≠ nI 10002) ∧ OkC x.2.2.2 x.2.1 0 0 ∧ x.1 ≤ 2 ∧ x.2.1 ≤ 96
def f3 (a b c : Int32) : Nat → Int32 := fun j => if j = 0 then a else if j = 1 then b else c
theorem KP.ev {x : Tx} (h : KP x) (a b c : Int32) (q : Nat → Int32) : (gvG a b c (max x.2.2.1 1) (fun k => enS (x.2.2.2 k)) x.2.1 0 (0, q)).2 0 = evT x a b c := by
  have e := gvG_wo (fc := f3 a b c) (cd := x.2.2.2) (sz := max x.2.2.1 1) x.2.1 0 0 q h.2.2.2.1 (by rw [h.2.1]; omega)
  rw [show (f3 a b c) 0 = a from rfl, show (f3 a b c) 1 = b from rfl, show (f3 a b c) 2 = c from rfl] at e
  rw [e]
  exact woG_ind (fun _ _ => rfl) x.2.1 0 0 q (fun _ => 0) h.2.2.2.1 (fun j hj => by omega) 0 h.1
theorem KP.wf {x : Tx} (h : KP x) : Wf x.2.1 (max x.2.2.1 1) (fun k => enS (x.2.2.2 k)) := fun f s th q => by rw [h.ev, h.ev]
theorem KP.al {x : Tx} (h : KP x) : alT x.2.1 (max x.2.2.1 1) (fun k => enS (x.2.2.2 k)) = fun c g s => hl (evT x c g s) 0 99 := by
  funext c g s
  unfold alT
  rw [h.ev]
/-- the reference's law, whatever lies on its stack -/
theorem KP.wo {x : Tx} (h : KP x) (fc q : Nat → Int32) : (woG fc x.2.2.2 x.2.1 0 (0, q)).2 0 = evT x (fc 0) (fc 1) (fc 2) :=
  woG_ind (fun j hj => by
    have key : j = 0 ∨ j = 1 ∨ j = 2 := by omega
    rcases key with rfl | rfl | rfl <;> rfl) x.2.1 0 0 q (fun _ => 0) h.2.2.2.1 (fun j hj => by omega) 0 h.1
theorem KP.ev2 {x : Tx} (h : KP x) (h0 : ¬ x.1 = 0) (a b c c' : Int32) : evT x a b c = evT x a b c' := by
  unfold evT
  rw [woG_ind2 (fc := fun j => if j = 0 then a else if j = 1 then b else c) (fc' := fun j => if j = 0 then a else if j = 1 then b else c') (fun j hj => by
    have key : j = 0 ∨ j = 1 := by omega
    rcases key with rfl | rfl <;> rfl) x.2.1 0 0 (fun _ => 0) h.2.2.2.1 (fun k _ h2 => by
    rcases h.2.2.1 with z | z
    · exact absurd z h0
    · exact z k (by omega))]
theorem gvG_cg {f s th : Int32} {sz : Nat} {st1 st2 : Nat → Int32} : ∀ (n i : Nat) (q : Nat × (Nat → Int32)), (∀ k, i ≤ k → k < i + n → st1 k = st2 k) → gvG f s th sz st1 n i q = gvG f s th sz st2 n i q := by
  intro n
  induction n with
  | zero => intro i q _; rfl
  | succ n ih =>
    intro i q h
    show gvG f s th sz st1 n (i + 1) (gvS f s th sz (st1 i) q) = gvG f s th sz st2 n (i + 1) (gvS f s th sz (st2 i) q)
    rw [h i (by omega) (by omega)]
    exact ih _ _ (fun k h1 h2 => h k (by omega) (by omega))
/-- following the text that counts -/
theorem fol {S : Shp} {I : Mem} {tn m : Nat} {tx : Nat → Tx} (hr : KTx S I tn tx) (hk : ∀ t, t < tn → KP (tx t)) (hm : m ≤ tn) (hal : ∃ al, AlOk S I al) : AlOk (m0_follow S I (ctP S tx 0 m)).1 (m0_follow S I (ctP S tx 0 m)).2 (alX m tx) := by
  cases hl : lastK tx 0 m with
  | none =>
    have ec : ctP S tx 0 m = none := by unfold ctP; rw [hl]
    rw [ec, alX_none hl]
    refine Or.inl ⟨?_, rfl⟩
    unfold m0_follow
    split
    · rename_i z; exact z.symm
    · show p2 S.2.2 27 0 none 27 0 = none
      simp [p2]
  | some t =>
    have ht := lastK_lt hl
    obtain ⟨p, p1, p2', p3, p4, p5⟩ := hr.2 t (by omega)
    have ec : ctP S tx 0 m = some p := by unfold ctP; rw [hl]; exact p1
    have hP := hk t (by omega)
    have eX : alX m tx = alT (tx t).2.1 (max (tx t).2.2.1 1) (fun k => enS ((tx t).2.2.2 k)) := by
      rw [hP.al]
      funext c g s
      exact alX_some hl c g s
    rw [ec, eX]
    unfold m0_follow
    by_cases hs : some p = S.2.2 27 0
    · rw [if_pos hs]
      obtain ⟨al, ha⟩ := hal
      rcases ha with ⟨h0, -⟩ | ⟨t', len, sz, st, a1, a2, a3, a4, a5⟩
      · rw [h0] at hs; cases hs
      · have et : t' = p := by rw [← hs] at a1; exact (Option.some.inj a1).symm
        subst et
        obtain ⟨-, -, -, -, b5, b6, -, -, b9, -⟩ := id p2'
        obtain ⟨-, -, -, -, c5, c6, -, -, c9, -⟩ := id a2
        have el : len = (tx t).2.1 := by rw [b5] at c5; exact (Prod.mk.inj c5).2.symm
        have es : sz = max (tx t).2.2.1 1 := by rw [b6] at c6; exact (Prod.mk.inj c6).2.symm
        subst el
        subst es
        have ea : alT (tx t).2.1 (max (tx t).2.2.1 1) (fun k => enS ((tx t).2.2.2 k)) = al := by
          rw [a4]
          funext c g s
          unfold alT
          rw [gvG_cg (st2 := st) _ _ _ (fun k h1 h2 => by rw [← c9 k (by omega), b9 k (by omega)])]
        refine Or.inr ⟨t', _, _, _, hs.symm, p2', hP.wf, rfl, ?_⟩
        rw [ea]
        exact a5
    · rw [if_neg hs]
      refine Or.inr ⟨p, _, _, _, ?_, ?_, hP.wf, rfl, ?_⟩
      · show p2 S.2.2 27 0 (some p) 27 0 = some p
        simp [p2]
      · obtain ⟨b1, b2, b3, b4, b5, b6, b7, b8, b9, b10⟩ := p2'
        refine ⟨b1, b2, b3, b4, b5, b6, ?_, ?_, ?_, b10⟩
        · show p2 S.2.2 27 0 (some p) p 2 = _
          rw [p2_row (by omega)]; exact b7
        · show p2 S.2.2 27 0 (some p) p 3 = _
          rw [p2_row (by omega)]; exact b8
        · intro k hk
          show fl1 I 28 1890 0 (p + 1) k = _
          unfold fl1
          rw [sR_n (by omega)]; exact b9 k hk
      · intro c g s c1 c9 g9 s20
        refine Or.inl ?_
        show fl1 I 28 1890 0 28 (plc c g s) = 0
        unfold fl1
        rw [sR_s, if_pos (plc_lt c1 c9 g9 s20)]
theorem fol_S {S : Shp} {I : Mem} {x : Option Nat} : (m0_follow S I x).1.1 = S.1 ∧ (m0_follow S I x).1.2.1 = S.2.1 ∧ ∀ i j, (i ≠ 27 ∨ j ≠ 0) → (m0_follow S I x).1.2.2 i j = S.2.2 i j := by
  unfold m0_follow
  split
  · exact ⟨rfl, rfl, fun _ _ _ => rfl⟩
  · refine ⟨rfl, rfl, fun i j h => ?_⟩
    show p2 S.2.2 27 0 x i j = _
    unfold p2
    rw [if_neg (by omega)]
theorem fol_I {S : Shp} {I : Mem} {x : Option Nat} {y : Nat} (h : y ≠ 28) : (m0_follow S I x).2 y = I y := by
  unfold m0_follow
  split
  · rfl
  · show fl1 I 28 1890 0 y = _
    unfold fl1
    rw [sR_n h]
theorem fol_H {S : Shp} {I : Mem} {x : Option Nat} (h : SHP S) : SHP (m0_follow S I x).1 := by
  obtain ⟨e1, e2, e3⟩ := @fol_S S I x
  exact ⟨by rw [e1]; exact h.1, by rw [e1]; exact h.2.1, fun i hi => by rw [e2]; exact h.2.2.1 i hi, fun i j a b c => by rw [e3 i j c]; exact h.2.2.2 i j a b c⟩
theorem TxOk.sh {S S' : Shp} {I J : Mem} {t len sz : Nat} {steps : Nat → Int32} (h : TxOk S I t len sz steps) (e1 : S.1 ≤ S'.1) (e2 : ∀ i, i < S.1 → S'.2.1 i = S.2.1 i) (e3 : ∀ i j, i < S.1 → (i ≠ 27 ∨ j ≠ 0) → i ≠ 26 → S'.2.2 i j = S.2.2 i j) (hk : J (t + 1) = I (t + 1)) : TxOk S' J t len sz steps := by
  obtain ⟨b1, b2, b3, b4, b5, b6, b7, b8, b9, b10⟩ := h
  exact ⟨b1, b2, by omega, by rw [e2 _ (by omega)]; exact b4, by rw [e2 _ (by omega)]; exact b5, by rw [e2 _ (by omega)]; exact b6, by rw [e3 _ _ (by omega) (by omega) (by omega)]; exact b7, by rw [e3 _ _ (by omega) (by omega) (by omega)]; exact b8, fun k hk' => by rw [hk]; exact b9 k hk', b10⟩
theorem fol_T {S : Shp} {I : Mem} {x : Option Nat} {tn : Nat} {tx : Nat → Tx} (hr : KTx S I tn tx) : KTx (m0_follow S I x).1 (m0_follow S I x).2 tn tx := by
  refine ⟨hr.1, fun t ht => ?_⟩
  obtain ⟨p, p1, p2, p3, p4, p5⟩ := hr.2 t ht
  obtain ⟨e1, e2, e3⟩ := @fol_S S I x
  have := p2.1
  exact ⟨p, by rw [e3 _ _ (Or.inl (by decide))]; exact p1, p2.sh (by rw [e1]; omega) (fun i _ => by rw [e2]) (fun i j _ h _ => e3 i j h) (fol_I (by omega)), by rw [fol_I (by omega)]; exact p3, by rw [fol_I (by omega)]; exact p4, p5⟩

