/-! ===== the class's memory I and the reference's T ===== -/
def aB (T : Mem) : Nat → Int32 := fun i => if i < 61 then T 57 i else 0
def PB (A : Nat → Int32) (h : Nat) : Prop := ∀ b, b < 9 → -(7000 * (h : Int)) ≤ (A (19 + 5 * b)).toInt ∧ (A (19 + 5 * b)).toInt ≤ 7000 * (h : Int)
def KN (A : Nat → Int32) : Prop := (∃ n, n ≤ 8 ∧ WA A n) ∧ (∃ h, h ≤ 9999 ∧ A 2 = nI h ∧ PB A h) ∧ ∀ c, c < 8 → ∃ r, r ≤ 9 ∧ A (8 + c) = nI r
def KS (T : Mem) : Prop := ∀ i, i < 4 → (T 68 i = -1 ∨ T 68 i = 0 ∨ T 68 i = 1) ∧ (∃ n, n ≤ 24 ∧ T 69 i = nI n) ∧ ∀ k, k < 24 → T 70 (24 * i + k) = -1000000005 ∨ (-99999 ≤ T 70 (24 * i + k) ∧ T 70 (24 * i + k) ≤ 99999)
def KL (T : Mem) : Prop := ∀ i, i < 5 → (T 71 i = 0 ∨ T 71 i = 1 ∨ T 71 i = 2 ∨ T 71 i = 3) ∧ (T 71 i = 2 → ∃ n, n ≤ 24 ∧ T 72 i = nI n) ∧ (T 71 i = 1 → isK (T 72 i))
def KY (T : Mem) : Prop := (∀ k, k < 11 → T 61 k = ([97, 108, 109, 115, 102, 101, 101, 102, 105, 110, 101] : List Int32).getD k 0) ∧ (∀ k, k < 4 → T 62 k = ([0, 4, 7, 11] : List Int32).getD k 0)
def KT (T : Mem) (tn bn : Nat) (tx : Nat → Tx) : Prop :=
  KN (aR T) ∧ (RT T tn tx ∧ ∀ t, t < tn → KP (tx t)) ∧ bn ≤ tn ∧ ((T 55 3 = 0 ∨ T 55 3 = 1) ∧ (T 55 3 = 1 → KN (aB T) ∧ RT (sR T 56 (T 57)) bn tx)) ∧ KS T ∧ KL T ∧ (∃ m, m ≤ 60 ∧ T 55 32 = nI m) ∧ (∃ p, p ≤ 96 ∧ T 55 6 = nI p) ∧ KY T
def CS (I T : Mem) : Prop := ∀ i, i < 4 → I (32 + 2 * i) 0 = T 68 i ∧ I (32 + 2 * i) 1 = T 69 i ∧ ∀ k, k < 24 → I (33 + 2 * i) k = T 70 (24 * i + k)
def CL (I T : Mem) : Prop := ∀ i, i < 5 → I (40 + 3 * i) 0 = T 71 i ∧ (T 71 i = 1 → I (40 + 3 * i) 1 = T 72 i ∧ T 73 i = kWorth (I (40 + 3 * i) 1) (I (40 + 3 * i) 2)) ∧ (T 71 i = 2 → I (41 + 3 * i) 1 = T 72 i ∧ ∀ k, k < 24 → I (42 + 3 * i) k = T 74 (24 * i + k)) ∧ (T 71 i = 3 → I (40 + 3 * i) 3 = T 72 i)
def CW (I T : Mem) : Prop := I 0 11 = T 55 32 ∧ ∀ k, k < 60 → I 31 k = T 76 k
def CP (I T : Mem) : Prop := I 23 1 = T 55 6 ∧ ∀ k, k < 96 → T 60 k = I 24 k &&& 255 ∧ -128 ≤ I 24 k ∧ I 24 k ≤ 127
def KC (S : Shp) (I T : Mem) (tn : Nat) (tx : Nat → Tx) : Prop :=
  SHP S ∧ aC 1 I = aR T ∧ (I 0 3 = T 55 3 ∧ (T 55 3 = 1 → aC 15 I = aB T)) ∧ KTx S I tn tx ∧ (∃ al, AlOk S I al) ∧ CS I T ∧ CL I T ∧ CW I T ∧ CP I T
def K (S : Shp) (I T : Mem) (tn bn : Nat) (tx : Nat → Tx) : Prop := KT T tn bn tx ∧ KC S I T tn tx
theorem KTx.mv {S : Shp} {I J : Mem} {tn : Nat} {tx : Nat → Tx} (h : KTx S I tn tx) (hf : ∀ x, 77 ≤ x → ¬ Scr x → J x = I x) : KTx S J tn tx := by
  refine ⟨h.1, fun t ht => ?_⟩
  obtain ⟨p, p1, p2, p3, p4, p5⟩ := h.2 t ht
  have h1 := p2.1
  have h2 := p2.2.1
  have e : J p = I p := hf p h1 (by unfold Scr; omega)
  exact ⟨p, p1, p2.mv (hf (p + 1) (by omega) (by unfold Scr; omega)), by rw [e]; exact p3, by rw [e]; exact p4, p5⟩
/-- the class's parts, when only the three streets' first two, and what is scratch, have changed -/
theorem KC.go {S : Shp} {I J T U : Mem} {tn : Nat} {tx : Nat → Tx} (h : KC S I T tn tx) (hf : ∀ x, ¬ Scr x → (x = 0 ∨ 14 < x) → J x = I x) (hu : ∀ x, x ≠ 56 → U x = T x) (ha : ∃ al, AlOk S J al) (h1 : aC 1 J = aR U) : KC S J U tn tx := by
  obtain ⟨a1, a2, ⟨a3, a4⟩, a5, a6, a7, a8, a9, a10⟩ := h
  have hx : ∀ x, (x = 0 ∨ 14 < x) → x < 77 → x ≠ 28 → J x = I x := fun x h1 h2 h3 => hf x (by unfold Scr; omega) h1
  have eB : aB U = aB T := by unfold aB; rw [hu 57 (by decide)]
  refine ⟨a1, h1, ⟨?_, fun z => ?_⟩, a5.mv (fun x h1 h2 => hf x h2 (by omega)), ha, ?_, ?_, ?_, ?_⟩
  · rw [hx 0 (by omega) (by decide) (by decide), hu 55 (by decide)]; exact a3
  · rw [hu 55 (by decide)] at z
    rw [eB, ← a4 z]
    exact aC_out (fun x h1 h2 => hx x (by omega) (by omega) (by omega))
  · intro i hi
    obtain ⟨b1, b2, b3⟩ := a7 i hi
    rw [hx (32 + 2 * i) (by omega) (by omega) (by omega), hx (33 + 2 * i) (by omega) (by omega) (by omega), hu 68 (by decide), hu 69 (by decide), hu 70 (by decide)]
    exact ⟨b1, b2, b3⟩
  · intro i hi
    rw [hx (40 + 3 * i) (by omega) (by omega) (by omega), hx (41 + 3 * i) (by omega) (by omega) (by omega), hx (42 + 3 * i) (by omega) (by omega) (by omega), hu 71 (by decide), hu 72 (by decide), hu 73 (by decide), hu 74 (by decide)]
    exact a8 i hi
  · unfold CW
    rw [hx 0 (by omega) (by decide) (by decide), hx 31 (by omega) (by decide) (by decide), hu 55 (by decide), hu 76 (by decide)]
    exact a9
  · unfold CP
    rw [hx 23 (by omega) (by decide) (by decide), hx 24 (by omega) (by decide) (by decide), hu 55 (by decide), hu 60 (by decide)]
    exact a10
theorem RT.mv2 {I J : Mem} {tn : Nat} {tx : Nat → Tx} (h : RT I tn tx) (h7 : J 56 7 = I 56 7) (h61 : ∀ i, 61 ≤ i → i < 1433 → J 56 i = I 56 i) : RT J tn tx := by
  obtain ⟨a1, a2, a3⟩ := h
  refine ⟨a1, h7.trans a2, fun t ht => ?_⟩
  obtain ⟨b1, b2, b3, b4, b5, b6⟩ := a3 t ht
  exact ⟨by rw [h61 _ (by omega) (by omega)]; exact b1, by rw [h61 _ (by omega) (by omega)]; exact b2, b3, b4, fun k hk => by rw [h61 _ (by omega) (by omega)]; exact b5 k hk, b6⟩
theorem KT.go {T U : Mem} {tn bn : Nat} {tx : Nat → Tx} (h : KT T tn bn tx) (hu : ∀ x, x ≠ 56 → U x = T x) (h61 : ∀ i, 61 ≤ i → U 56 i = T 56 i) (h7 : U 56 7 = T 56 7) (hn : KN (aR U)) : KT U tn bn tx := by
  obtain ⟨a1, ⟨a2, a3⟩, a4, ⟨a5, a6⟩, a7, a8, a9, a10, a11⟩ := h
  have eB : aB U = aB T := by unfold aB; rw [hu 57 (by decide)]
  refine ⟨hn, ⟨a2.mv h7 h61, a3⟩, a4, ⟨by rw [hu 55 (by decide)]; exact a5, fun z => ?_⟩, ?_, ?_, by rw [hu 55 (by decide)]; exact a9, by rw [hu 55 (by decide)]; exact a10, ?_⟩
  · rw [hu 55 (by decide)] at z
    refine ⟨by rw [eB]; exact (a6 z).1, (a6 z).2.mv ?_ (fun i hi => ?_)⟩
    · rw [sR_s, sR_s, hu 57 (by decide)]
    · rw [sR_s, sR_s, hu 57 (by decide)]
  · unfold KS
    rw [hu 68 (by decide), hu 69 (by decide), hu 70 (by decide)]
    exact a7
  · unfold KL
    rw [hu 71 (by decide), hu 72 (by decide)]
    exact a8
  · unfold KY
    rw [hu 61 (by decide), hu 62 (by decide)]
    exact a11
/-- the reference's row, its first part another -/
def nw (T : Mem) (A : Nat → Int32) : Mem := sR T 56 (fun i => if i < 61 then A i else T 56 i)
theorem nw_o {T : Mem} {A : Nat → Int32} {x : Nat} (h : x ≠ 56) : nw T A x = T x := sR_n h
theorem nw_61 {T : Mem} {A : Nat → Int32} {i : Nat} (h : 61 ≤ i) : nw T A 56 i = T 56 i := by
  unfold nw
  rw [sR_s, if_neg (by omega)]
theorem nw_l {T : Mem} {A : Nat → Int32} {i : Nat} (h : i < 61) : nw T A 56 i = A i := by
  unfold nw
  rw [sR_s, if_pos h]
def Z61 (A : Nat → Int32) : Prop := ∀ i, 61 ≤ i → A i = 0
theorem Z_C (o : Nat) (I : Mem) : Z61 (aC o I) := fun i hi => by unfold aC; rw [if_neg (by omega), if_neg (by omega), if_neg (by omega)]
theorem Z_R (I : Mem) : Z61 (aR I) := fun i hi => by unfold aR; rw [if_neg (by omega)]
theorem nw_R {T : Mem} {A : Nat → Int32} (h : Z61 A) : aR (nw T A) = A := by
  funext i
  unfold aR
  by_cases hi : i < 61
  · rw [if_pos hi, nw_l hi]
  · rw [if_neg hi, h i (by omega)]
theorem nw_id (T : Mem) : nw T (aR T) = T := by
  unfold nw
  rw [show (fun i => if i < 61 then aR T i else T 56 i) = T 56 from ?_, sR_self]
  funext i
  by_cases hi : i < 61
  · rw [if_pos hi, aR_rd T hi]
  · rw [if_neg hi]
/-- a call of the class: its answer, and what holds behind it -/
def CO (I U : Mem) (tn bn : Nat) (tx : Nat → Tx) (v : Int32) : Option Value → Shp → Mem → Prop := fun r S' I' => r = some (.int v) ∧ K S' I' U tn bn tx ∧ ∀ x, 55 ≤ x → x < 77 → I' x = I x
/-- what of the reference's memory counts -/
def RE (U J : Mem) : Prop := (∀ x, 55 < x → x < 77 → x ≠ 56 → x ≠ 58 → x ≠ 59 → x ≠ 63 → x ≠ 64 → x ≠ 65 → x ≠ 66 → x ≠ 67 → x ≠ 75 → J x = U x) ∧ (∀ i, i < 1433 → J 56 i = U 56 i) ∧ J 55 3 = U 55 3 ∧ J 55 6 = U 55 6 ∧ J 55 32 = U 55 32
def RO (S : Shp) (I U : Mem) (v : Int32) : Option Value → Shp → Mem → Prop := fun r S' I' => r = some (.int v) ∧ S = S' ∧ RE U I' ∧ ∀ x, (x < 55 ∨ 77 ≤ x) → I' x = I x
def RI (T I : Mem) : Prop := ∀ x, 55 ≤ x → x < 77 → I x = T x
theorem K.re {S : Shp} {I T U : Mem} {tn bn : Nat} {tx : Nat → Tx} (h : K S I T tn bn tx) (hr : RE T U) : K S I U tn bn tx := by
  obtain ⟨⟨a1, ⟨a2, a3⟩, a4, ⟨a5, a6⟩, a7, a8, a9, a10, a11⟩, c1, c2, ⟨c3, c4⟩, c5, c6, c7, c8, c9, c10⟩ := h
  obtain ⟨r1, r2, r3, r4, r5⟩ := hr
  have eR : aR U = aR T := by
    funext i
    unfold aR
    by_cases hi : i < 61
    · rw [if_pos hi, if_pos hi, r2 i (by omega)]
    · rw [if_neg hi, if_neg hi]
  have e57 := r1 57 (by decide) (by decide) (by decide) (by decide) (by decide) (by decide) (by decide) (by decide) (by decide) (by decide) (by decide)
  have e60 := r1 60 (by decide) (by decide) (by decide) (by decide) (by decide) (by decide) (by decide) (by decide) (by decide) (by decide) (by decide)
  have e61 := r1 61 (by decide) (by decide) (by decide) (by decide) (by decide) (by decide) (by decide) (by decide) (by decide) (by decide) (by decide)
  have e62 := r1 62 (by decide) (by decide) (by decide) (by decide) (by decide) (by decide) (by decide) (by decide) (by decide) (by decide) (by decide)
  have e68 := r1 68 (by decide) (by decide) (by decide) (by decide) (by decide) (by decide) (by decide) (by decide) (by decide) (by decide) (by decide)
  have e69 := r1 69 (by decide) (by decide) (by decide) (by decide) (by decide) (by decide) (by decide) (by decide) (by decide) (by decide) (by decide)
  have e70 := r1 70 (by decide) (by decide) (by decide) (by decide) (by decide) (by decide) (by decide) (by decide) (by decide) (by decide) (by decide)
  have e71 := r1 71 (by decide) (by decide) (by decide) (by decide) (by decide) (by decide) (by decide) (by decide) (by decide) (by decide) (by decide)
  have e72 := r1 72 (by decide) (by decide) (by decide) (by decide) (by decide) (by decide) (by decide) (by decide) (by decide) (by decide) (by decide)
  have e73 := r1 73 (by decide) (by decide) (by decide) (by decide) (by decide) (by decide) (by decide) (by decide) (by decide) (by decide) (by decide)
  have e74 := r1 74 (by decide) (by decide) (by decide) (by decide) (by decide) (by decide) (by decide) (by decide) (by decide) (by decide) (by decide)
  have e76 := r1 76 (by decide) (by decide) (by decide) (by decide) (by decide) (by decide) (by decide) (by decide) (by decide) (by decide) (by decide)
  have eB : aB U = aB T := by unfold aB; rw [e57]
  refine ⟨⟨by rw [eR]; exact a1, ⟨a2.mv2 (r2 7 (by decide)) (fun i _ hi => r2 i hi), a3⟩, a4, ⟨by rw [r3]; exact a5, fun z => ?_⟩, ?_, ?_, by rw [r5]; exact a9, by rw [r4]; exact a10, ?_⟩, c1, by rw [eR]; exact c2, ⟨by rw [r3]; exact c3, fun z => by rw [eB]; exact c4 (by rw [← r3]; exact z)⟩, c5, c6, ?_, ?_, ?_, ?_⟩
  · rw [r3] at z
    refine ⟨by rw [eB]; exact (a6 z).1, (a6 z).2.mv2 ?_ (fun i _ hi => ?_)⟩
    · rw [sR_s, sR_s, e57]
    · rw [sR_s, sR_s, e57]
  · unfold KS
    rw [e68, e69, e70]
    exact a7
  · unfold KL
    rw [e71, e72]
    exact a8
  · unfold KY
    rw [e61, e62]
    exact a11
  · unfold CS
    rw [e68, e69, e70]
    exact c7
  · unfold CL
    rw [e71, e72, e73, e74]
    exact c8
  · unfold CW
    rw [e76, r5]
    exact c9
  · unfold CP
    rw [e60, r4]
    exact c10
theorem RE.rf {T I : Mem} (h : RI T I) : RE T I := ⟨fun x h1 h2 _ _ _ _ _ _ _ _ _ => h x (by omega) h2, fun i _ => by rw [h 56 (by decide) (by decide)], by rw [h 55 (by decide) (by decide)], by rw [h 55 (by decide) (by decide)], by rw [h 55 (by decide) (by decide)]⟩
theorem RI.a {T I : Mem} (h : RI T I) : aR I = aR T := aR_o (h 56 (by decide) (by decide))
/-- behind hours in the reference -/
theorem RE.ps {T I J : Mem} {A : Nat → Int32} (h : RI T I) (hp : PsR I A J) : RE (nw T A) J := by
  refine ⟨fun x h1 h2 h3 _ _ _ _ _ h9 h10 _ => ?_, fun i hi => ?_, ?_, ?_, ?_⟩
  · rw [nw_o h3, hp.2.1 x h3 h9 h10, h x (by omega) h2]
  · by_cases q : i < 61
    · rw [nw_l q, aR_rd J q, hp.1]
    · rw [nw_61 (by omega), hp.2.2 i (by omega), h 56 (by decide) (by decide)]
  · rw [nw_o (by decide), hp.2.1 55 (by decide) (by decide) (by decide), h 55 (by decide) (by decide)]
  · rw [nw_o (by decide), hp.2.1 55 (by decide) (by decide) (by decide), h 55 (by decide) (by decide)]
  · rw [nw_o (by decide), hp.2.1 55 (by decide) (by decide) (by decide), h 55 (by decide) (by decide)]
theorem RO.ps {S : Shp} {T I J : Mem} {A : Nat → Int32} {v : Int32} (h : RI T I) (hp : PsR I A J) : RO S I (nw T A) v (some (.int v)) S J := ⟨rfl, rfl, RE.ps h hp, fun x hx => hp.2.1 x (by omega) (by omega) (by omega)⟩
theorem RO.id {S : Shp} {T I : Mem} {v : Int32} (h : RI T I) : RO S I T v (some (.int v)) S I := ⟨rfl, rfl, RE.rf h, fun _ _ => rfl⟩
theorem CO.id {S : Shp} {I T : Mem} {tn bn : Nat} {tx : Nat → Tx} {v : Int32} (h : K S I T tn bn tx) : CO I T tn bn tx v (some (.int v)) S I := ⟨rfl, h, fun _ _ _ => rfl⟩
/-- the class's street another -/
theorem K.st {S : Shp} {I J T : Mem} {tn bn : Nat} {tx : Nat → Tx} {A : Nat → Int32} (h : K S I T tn bn tx) (hf : ∀ x, ¬ Scr x → (x = 0 ∨ 14 < x) → J x = I x) (ha : ∃ al, AlOk S J al) (h1 : aC 1 J = A) (hn : KN A) (h7 : A 7 = aR T 7) : K S J (nw T A) tn bn tx := by
  have hz : Z61 A := by rw [← h1]; exact Z_C 1 J
  have eR := nw_R (T := T) hz
  exact ⟨h.1.go (fun x hx => nw_o hx) (fun i hi => nw_61 hi) (by rw [nw_l (by decide), h7, aR_rd T (by decide)]) (by rw [eR]; exact hn), h.2.go hf (fun x hx => nw_o hx) ha (by rw [h1, eR])⟩
theorem CO.st {S : Shp} {I J T : Mem} {tn bn : Nat} {tx : Nat → Tx} {A : Nat → Int32} {v : Int32} (h : K S I T tn bn tx) (hf : ∀ x, ¬ Scr x → (x = 0 ∨ 14 < x) → J x = I x) (ha : ∃ al, AlOk S J al) (h1 : aC 1 J = A) (hn : KN A) (h7 : A 7 = aR T 7) : CO I (nw T A) tn bn tx v (some (.int v)) S J := ⟨rfl, h.st hf ha h1 hn h7, fun x h1 h2 => hf x (by unfold Scr; omega) (by omega)⟩
/-- only what is thought, and scratch, is another -/
theorem K.th {S : Shp} {I J T : Mem} {tn bn : Nat} {tx : Nat → Tx} (h : K S I T tn bn tx) (hf : ∀ x, ¬ Scr x → (x < 8 ∨ 14 < x) → J x = I x) (ha : ∃ al, AlOk S J al) : K S J T tn bn tx := by
  have e : aC 1 J = aC 1 I := aC_out (fun x h1 h2 => hf x (not_scr (by omega)) (by omega))
  exact ⟨h.1, h.2.go (fun x h1 h2 => hf x h1 (by omega)) (fun _ _ => rfl) ha (by rw [e]; exact h.2.2.1)⟩
/-- what a call has at hand -/
theorem K.n {S : Shp} {I T : Mem} {tn bn : Nat} {tx : Nat → Tx} (h : K S I T tn bn tx) : ∃ n, n ≤ 8 ∧ WA (aR T) n ∧ aC 1 I = aR T ∧ I 1 6 = nI n ∧ I 1 13 = nI tn := by
  obtain ⟨n, hn, hw⟩ := h.1.1.1
  refine ⟨n, hn, hw, h.2.2.1, ?_, ?_⟩
  · have e : aC 1 I 1 = I 1 6 := rfl
    rw [← e, h.2.2.1]; exact hw.1
  · have e : aC 1 I 7 = I 1 13 := rfl
    rw [← e, h.2.2.1, ← aR_rd T (by decide)]; exact h.1.2.1.1.2.1
theorem aR_Z {T : Mem} {i : Nat} {v : Int32} (h : i < 61) : Z61 (upd (aR T) i v) := fun j hj => by
  rw [upd_n (by omega)]; exact Z_R T j hj

