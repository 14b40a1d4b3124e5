/-! the abstract store: 61 ints by the numbers of the reference's row -/
def scf (i : Nat) : Nat := ([12, 6, 11, 7, 8, 9, 10, 13] : List Nat).getD i 13
def aC (o : Nat) (I : Mem) : Nat → Int32 := fun i =>
  if i < 8 then I o (scf i) else if i < 16 then I (o + 1) (i - 8) else if i < 61 then I (o + 2 + (i - 16) % 5) ((i - 16) / 5) else 0
theorem aC_out {o : Nat} {I J : Mem} (h : ∀ x, o ≤ x → x ≤ o + 6 → J x = I x) : aC o J = aC o I := by
  funext i
  unfold aC
  split
  · rw [h o (by omega) (by omega)]
  · split
    · rw [h (o + 1) (by omega) (by omega)]
    · split
      · have : (i - 16) % 5 < 5 := Nat.mod_lt _ (by decide)
        rw [h _ (by omega) (by omega)]
      · rfl
theorem scf_inj {i j : Nat} (hi : i < 8) (hj : j < 8) (h : scf i = scf j) : i = j := by
  have key : ∀ a, a < 8 → ∀ b, b < 8 → scf a = scf b → a = b := by decide
  exact key i hi j hj h
theorem aC_sc {o : Nat} {I : Mem} {j : Nat} (hj : j < 8) (v : Int32) : aC o (u2 I o (scf j) v) = upd (aC o I) j v := by
  funext i
  unfold aC upd
  dsimp only
  by_cases h8 : i < 8
  · rw [if_pos h8]
    by_cases hij : i = j
    · subst hij; rw [if_pos rfl, u2_s]
    · rw [if_neg hij, if_pos h8, u2_k (fun q => hij (scf_inj h8 hj q))]
  · rw [if_neg h8, if_neg (show ¬ i = j by omega), if_neg h8]
    have : (i - 16) % 5 < 5 := Nat.mod_lt _ (by decide)
    rw [u2_row (show o + 1 ≠ o by omega), u2_row (show o + 2 + (i - 16) % 5 ≠ o by omega)]
theorem aC_rent {o : Nat} {I : Mem} {j : Nat} (hj : j < 8) (v : Int32) : aC o (u2 I (o + 1) j v) = upd (aC o I) (8 + j) v := by
  funext i
  unfold aC upd
  dsimp only
  by_cases h8 : i < 8
  · rw [if_pos h8, if_neg (show ¬ i = 8 + j by omega), if_pos h8, u2_row (by omega)]
  · rw [if_neg h8]
    by_cases h16 : i < 16
    · rw [if_pos h16]
      by_cases hij : i = 8 + j
      · subst hij; rw [if_pos rfl, show 8 + j - 8 = j by omega, u2_s]
      · rw [if_neg hij, if_neg h8, if_pos h16, u2_k (by omega)]
    · rw [if_neg h16, if_neg (show ¬ i = 8 + j by omega), if_neg h8, if_neg h16, u2_row (by omega)]
theorem aC_arr {o : Nat} {I : Mem} {k b : Nat} (hk : k < 5) (hb : b < 9) (v : Int32) : aC o (u2 I (o + 2 + k) b v) = upd (aC o I) (16 + 5 * b + k) v := by
  funext i
  unfold aC upd
  dsimp only
  by_cases h8 : i < 8
  · rw [if_pos h8, if_neg (show ¬ i = 16 + 5 * b + k by omega), if_pos h8, u2_row (by omega)]
  · rw [if_neg h8]
    by_cases h16 : i < 16
    · rw [if_pos h16, if_neg (show ¬ i = 16 + 5 * b + k by omega), if_neg h8, if_pos h16, u2_row (by omega)]
    · rw [if_neg h16]
      by_cases h61 : i < 61
      · rw [if_pos h61]
        by_cases hij : i = 16 + 5 * b + k
        · subst hij
          rw [if_pos rfl, show (16 + 5 * b + k - 16) % 5 = k by omega, show (16 + 5 * b + k - 16) / 5 = b by omega, u2_s]
        · rw [if_neg hij, if_neg h8, if_neg h16, if_pos h61]
          by_cases hm : (i - 16) % 5 = k
          · rw [u2_k (by omega)]
          · rw [u2_row (by omega)]
      · rw [if_neg h61, if_neg (show ¬ i = 16 + 5 * b + k by omega), if_neg h8, if_neg h16, if_neg h61]
theorem aC_rd {o : Nat} (I : Mem) {k b : Nat} (hk : k < 5) (hb : b < 9) : I (o + 2 + k) b = aC o I (16 + 5 * b + k) := by
  unfold aC
  rw [if_neg (by omega), if_neg (by omega), if_pos (by omega), show (16 + 5 * b + k - 16) % 5 = k by omega, show (16 + 5 * b + k - 16) / 5 = b by omega]
theorem aC_rr {o : Nat} (I : Mem) {j : Nat} (hj : j < 8) : I (o + 1) j = aC o I (8 + j) := by
  unfold aC
  rw [if_neg (by omega), if_pos (by omega), show 8 + j - 8 = j by omega]
theorem aC_rk {o : Nat} (I : Mem) {b : Nat} (hb : b < 9) : I (o + 2) b = aC o I (16 + 5 * b) := aC_rd (k := 0) I (by decide) hb
theorem aC_rc {o : Nat} (I : Mem) {b : Nat} (hb : b < 9) : I (o + 3) b = aC o I (17 + 5 * b) := by rw [show 17 + 5 * b = 16 + 5 * b + 1 by omega]; exact aC_rd (k := 1) I (by decide) hb
theorem aC_rs {o : Nat} (I : Mem) {b : Nat} (hb : b < 9) : I (o + 4) b = aC o I (18 + 5 * b) := by rw [show 18 + 5 * b = 16 + 5 * b + 2 by omega]; exact aC_rd (k := 2) I (by decide) hb
theorem aC_rp {o : Nat} (I : Mem) {b : Nat} (hb : b < 9) : I (o + 5) b = aC o I (19 + 5 * b) := by rw [show 19 + 5 * b = 16 + 5 * b + 3 by omega]; exact aC_rd (k := 3) I (by decide) hb
theorem aC_rh {o : Nat} (I : Mem) {b : Nat} (hb : b < 9) : I (o + 6) b = aC o I (20 + 5 * b) := by rw [show 20 + 5 * b = 16 + 5 * b + 4 by omega]; exact aC_rd (k := 4) I (by decide) hb
theorem aC_wk {o : Nat} {I : Mem} {b : Nat} (hb : b < 9) (v : Int32) : aC o (u2 I (o + 2) b v) = upd (aC o I) (16 + 5 * b) v := aC_arr (k := 0) (by decide) hb v
theorem aC_wc {o : Nat} {I : Mem} {b : Nat} (hb : b < 9) (v : Int32) : aC o (u2 I (o + 3) b v) = upd (aC o I) (17 + 5 * b) v := by rw [show 17 + 5 * b = 16 + 5 * b + 1 by omega]; exact aC_arr (k := 1) (by decide) hb v
theorem aC_ws {o : Nat} {I : Mem} {b : Nat} (hb : b < 9) (v : Int32) : aC o (u2 I (o + 4) b v) = upd (aC o I) (18 + 5 * b) v := by rw [show 18 + 5 * b = 16 + 5 * b + 2 by omega]; exact aC_arr (k := 2) (by decide) hb v
theorem aC_wp {o : Nat} {I : Mem} {b : Nat} (hb : b < 9) (v : Int32) : aC o (u2 I (o + 5) b v) = upd (aC o I) (19 + 5 * b) v := by rw [show 19 + 5 * b = 16 + 5 * b + 3 by omega]; exact aC_arr (k := 3) (by decide) hb v
theorem aC_wh {o : Nat} {I : Mem} {b : Nat} (hb : b < 9) (v : Int32) : aC o (u2 I (o + 6) b v) = upd (aC o I) (20 + 5 * b) v := by rw [show 20 + 5 * b = 16 + 5 * b + 4 by omega]; exact aC_arr (k := 4) (by decide) hb v
/-- what holds of every store -/
def WA (A : Nat → Int32) (n : Nat) : Prop := A 1 = nI n ∧ n ≤ 9 ∧ (A 4 = 0 ∨ A 4 = 1) ∧ (∃ f, f ≤ 8 ∧ A 5 = nI f) ∧ ∀ b, b < 9 → isK (A (16 + 5 * b)) ∧ (∃ c, c ≤ 8 ∧ A (17 + 5 * b) = nI c) ∧ (∃ s, s ≤ 20 ∧ A (18 + 5 * b) = nI s)
theorem WA.mv {A B : Nat → Int32} {n : Nat} (h : WA A n) (h1 : B 1 = A 1) (h4 : B 4 = A 4) (h5 : B 5 = A 5) (hb : ∀ b k, b < 9 → k < 3 → B (16 + 5 * b + k) = A (16 + 5 * b + k)) : WA B n := by
  obtain ⟨a1, a2, a3, a4, a5⟩ := h
  refine ⟨by rw [h1]; exact a1, a2, by rw [h4]; exact a3, by rw [h5]; exact a4, fun b hb9 => ?_⟩
  have e0 := hb b 0 hb9 (by decide)
  have e1 := hb b 1 hb9 (by decide)
  have e2 := hb b 2 hb9 (by decide)
  rw [show 16 + 5 * b + 0 = 16 + 5 * b by omega] at e0
  rw [show 16 + 5 * b + 1 = 17 + 5 * b by omega] at e1
  rw [show 16 + 5 * b + 2 = 18 + 5 * b by omega] at e2
  rw [e0, e1, e2]
  exact a5 b hb9
theorem WA.up {A : Nat → Int32} {n i : Nat} (h : WA A n) (v : Int32) (h1 : i ≠ 1) (h4 : i ≠ 4) (h5 : i ≠ 5) (hb : ∀ b k, b < 9 → k < 3 → 16 + 5 * b + k ≠ i) : WA (upd A i v) n :=
  h.mv (by simp [upd, Ne.symm h1]) (by simp [upd, Ne.symm h4]) (by simp [upd, Ne.symm h5]) (fun b k h1 h2 => by simp [upd, hb b k h1 h2])
def aGift (al : Int32 → Int32 → Int32 → Int32) (A : Nat → Int32) (b c : Nat) (m : Int32) (g : Nat) : Int32 := kGift (A (16 + 5 * b)) (al (nI c) (nI g) (A (18 + 5 * b))) m (nI g) (A 4)
def aStep (al : Int32 → Int32 → Int32 → Int32) (c : Nat) (m co : Int32) (b : Nat) (q : Nat × (Nat → Int32)) : Nat × (Nat → Int32) :=
  let v := if q.2 (17 + 5 * b) = co then aGift al q.2 b c m q.1 else 0
  if 0 < v then (q.1 - 3, upd (upd q.2 (19 + 5 * b) (q.2 (19 + 5 * b) + v)) (20 + 5 * b) (q.2 (20 + 5 * b) + 1)) else q
def aIn (al : Int32 → Int32 → Int32 → Int32) (c : Nat) (m co : Int32) : Nat → Nat → Nat × (Nat → Int32) → Nat × (Nat → Int32)
  | 0, _, q => q
  | k + 1, b, q => aIn al c m co k (b + 1) (aStep al c m co b q)
def aOut (al : Int32 → Int32 → Int32 → Int32) (c : Nat) (m : Int32) (n : Nat) (pt : Nat → Int32) : Nat → Nat → Nat × (Nat → Int32) → Nat × (Nat → Int32)
  | 0, _, q => q
  | k + 1, i, q => aOut al c m n pt k (i + 1) (aIn al c m (pt i) n 0 q)
def pth (f t i : Nat) : Int32 := if f ≤ t then nI (f + i) else nI (f - i)
def pn (f t : Nat) : Nat := (if f ≤ t then t - f else f - t) + 1
def aWalk (al : Int32 → Int32 → Int32 → Int32) (f t c : Nat) (m : Int32) (n : Nat) (A : Nat → Int32) : Nat → Int32 := (aOut al c m n (pth f t) (pn f t) 0 (9, A)).2
/-- A step of a passer leaves all but purses and hats -/
theorem aStep_ne {al : Int32 → Int32 → Int32 → Int32} {c : Nat} {m co : Int32} {b : Nat} {q : Nat × (Nat → Int32)} {i : Nat} (h1 : i ≠ 19 + 5 * b) (h2 : i ≠ 20 + 5 * b) : (aStep al c m co b q).2 i = q.2 i := by
  unfold aStep
  dsimp only
  generalize (if q.2 (17 + 5 * b) = co then aGift al q.2 b c m q.1 else 0) = v
  split
  · simp [upd, h1, h2]
  · rfl
theorem aStep_no {al : Int32 → Int32 → Int32 → Int32} {c : Nat} {m co : Int32} {b g : Nat} {A : Nat → Int32} (h : ¬ A (17 + 5 * b) = co) : aStep al c m co b (g, A) = (g, A) := by
  unfold aStep
  dsimp only
  rw [if_neg h]
  rfl
theorem aStep_no2 {al : Int32 → Int32 → Int32 → Int32} {c : Nat} {m co : Int32} {b g : Nat} {A : Nat → Int32} (h : A (17 + 5 * b) = co) (h2 : aGift al A b c m g ≤ 0) : aStep al c m co b (g, A) = (g, A) := by
  unfold aStep
  dsimp only
  rw [if_pos h, if_neg (Int32.not_lt.mpr h2)]
theorem aStep_yes {al : Int32 → Int32 → Int32 → Int32} {c : Nat} {m co : Int32} {b g : Nat} {A : Nat → Int32} (h : A (17 + 5 * b) = co) (h2 : ¬ aGift al A b c m g ≤ 0) : aStep al c m co b (g, A) = (g - 3, upd (upd A (19 + 5 * b) (A (19 + 5 * b) + aGift al A b c m g)) (20 + 5 * b) (A (20 + 5 * b) + 1)) := by
  unfold aStep
  dsimp only
  rw [if_pos h, if_pos (Int32.not_le.mp h2)]
theorem aStep_g {al : Int32 → Int32 → Int32 → Int32} {c : Nat} {m co : Int32} {b : Nat} {q : Nat × (Nat → Int32)} (h : q.1 ≤ 9) : (aStep al c m co b q).1 ≤ 9 := by
  unfold aStep
  dsimp only
  generalize (if q.2 (17 + 5 * b) = co then aGift al q.2 b c m q.1 else 0) = v
  split
  · show q.1 - 3 ≤ 9; omega
  · exact h
theorem aStep_wa {al : Int32 → Int32 → Int32 → Int32} {c : Nat} {m co : Int32} {b n : Nat} {q : Nat × (Nat → Int32)} (h : WA q.2 n) : WA (aStep al c m co b q).2 n :=
  h.mv (aStep_ne (by omega) (by omega)) (aStep_ne (by omega) (by omega)) (aStep_ne (by omega) (by omega)) (fun b k _ _ => aStep_ne (by omega) (by omega))
theorem aIn_wa {al : Int32 → Int32 → Int32 → Int32} {c : Nat} {m co : Int32} {n : Nat} : ∀ (k b : Nat) (q : Nat × (Nat → Int32)), WA q.2 n → q.1 ≤ 9 → WA (aIn al c m co k b q).2 n ∧ (aIn al c m co k b q).1 ≤ 9
  | 0, _, _, h, hg => ⟨h, hg⟩
  | k + 1, b, _, h, hg => aIn_wa k (b + 1) _ (aStep_wa h) (aStep_g hg)
theorem aOut_wa {al : Int32 → Int32 → Int32 → Int32} {c : Nat} {m : Int32} {n' n : Nat} {pt : Nat → Int32} : ∀ (k i : Nat) (q : Nat × (Nat → Int32)), WA q.2 n → q.1 ≤ 9 → WA (aOut al c m n' pt k i q).2 n ∧ (aOut al c m n' pt k i q).1 ≤ 9
  | 0, _, _, h, hg => ⟨h, hg⟩
  | k + 1, i, _, h, hg => aOut_wa k (i + 1) _ (aIn_wa _ _ _ h hg).1 (aIn_wa _ _ _ h hg).2
theorem aWalk_wa {al : Int32 → Int32 → Int32 → Int32} {f t c : Nat} {m : Int32} {n' n : Nat} {A : Nat → Int32} (h : WA A n) : WA (aWalk al f t c m n' A) n := (aOut_wa _ _ (9, A) h (Nat.le_refl 9)).1
theorem aIn_ne {al : Int32 → Int32 → Int32 → Int32} {c : Nat} {m co : Int32} {i : Nat} (h : ∀ b, i ≠ 19 + 5 * b ∧ i ≠ 20 + 5 * b) : ∀ (k b : Nat) (q : Nat × (Nat → Int32)), (aIn al c m co k b q).2 i = q.2 i
  | 0, _, _ => rfl
  | k + 1, b, q => (aIn_ne h k (b + 1) _).trans (aStep_ne (h b).1 (h b).2)
theorem aOut_ne {al : Int32 → Int32 → Int32 → Int32} {c : Nat} {m : Int32} {n i : Nat} {pt : Nat → Int32} (h : ∀ b, i ≠ 19 + 5 * b ∧ i ≠ 20 + 5 * b) : ∀ (k j : Nat) (q : Nat × (Nat → Int32)), (aOut al c m n pt k j q).2 i = q.2 i
  | 0, _, _ => rfl
  | k + 1, j, q => (aOut_ne h k (j + 1) _).trans (aIn_ne h _ _ _)
theorem aWalk_ne {al : Int32 → Int32 → Int32 → Int32} {f t c : Nat} {m : Int32} {n i : Nat} {A : Nat → Int32} (h : ∀ b, i ≠ 19 + 5 * b ∧ i ≠ 20 + 5 * b) : aWalk al f t c m n A i = A i := aOut_ne h _ _ _

