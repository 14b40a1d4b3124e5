/-! ===== texts: how they are read ===== -/
abbrev Lx : Type := Nat × Nat × Nat
def sAt (b : Nat → Int32) (n p : Nat) : Nat := if n ≤ p then 0 else if 97 ≤ b p ∧ b p ≤ 122 then 1 else if 48 ≤ b p ∧ b p ≤ 57 then 2 else 3
def skp (b : Nat → Int32) (n : Nat) : Nat → Nat → Nat
  | 0, p => p
  | k + 1, p => if p < n ∧ b p = 32 then skp b n k (p + 1) else p
theorem skp_s (b : Nat → Int32) (n k p : Nat) : skp b n (k + 1) p = if p < n ∧ b p = 32 then skp b n k (p + 1) else p := rfl
def wrd (b : Nat → Int32) (n s : Nat) : Nat → Nat → Nat
  | 0, p => p
  | k + 1, p => if p < n ∧ sAt b n p = s then wrd b n s k (p + 1) else p
theorem wrd_s (b : Nat → Int32) (n s k p : Nat) : wrd b n s (k + 1) p = if p < n ∧ sAt b n p = s then wrd b n s k (p + 1) else p := rfl
def lxS (b : Nat → Int32) (n k e p : Nat) : Lx := if sAt b n p = 3 then (3, p, p + 1) else if sAt b n p = 0 then (0, p, p) else (if (k = 1 ∨ k = 2) ∧ p = e then 4 else sAt b n p, p, wrd b n (sAt b n p) (n - p) p)
def advL (b : Nat → Int32) (n : Nat) (x : Lx) : Lx := lxS b n x.1 x.2.2 (skp b n (n - x.2.2) x.2.2)
theorem sAt_le (b : Nat → Int32) (n p : Nat) : sAt b n p ≤ 3 := by
  unfold sAt
  repeat' split
  all_goals omega
theorem sAt_0 {b : Nat → Int32} {n p : Nat} : sAt b n p = 0 ↔ n ≤ p := by
  unfold sAt
  constructor
  · intro h
    by_cases q : n ≤ p
    · exact q
    · rw [if_neg q] at h
      split at h
      · exact absurd h (by decide)
      · split at h <;> exact absurd h (by decide)
  · intro h; rw [if_pos h]
theorem sAt_2 {b : Nat → Int32} {n p : Nat} (h : sAt b n p = 2) : 48 ≤ b p ∧ b p ≤ 57 := by
  unfold sAt at h
  split at h
  · exact absurd h (by decide)
  · split at h
    · exact absurd h (by decide)
    · split at h
      · assumption
      · exact absurd h (by decide)
theorem skp_b {b : Nat → Int32} {n : Nat} : ∀ (k p : Nat), p ≤ n → p ≤ skp b n k p ∧ skp b n k p ≤ n := by
  intro k
  induction k with
  | zero => intro p h; exact ⟨Nat.le_refl _, h⟩
  | succ k ih =>
    intro p h
    rw [skp_s]
    split
    · rename_i q
      have := ih (p + 1) (by omega)
      omega
    · omega
theorem wrd_b {b : Nat → Int32} {n s : Nat} : ∀ (k p : Nat), p ≤ n → p ≤ wrd b n s k p ∧ wrd b n s k p ≤ n ∧ ∀ q, p ≤ q → q < wrd b n s k p → sAt b n q = s := by
  intro k
  induction k with
  | zero => intro p h; exact ⟨Nat.le_refl _, h, fun q h1 h2 => absurd (show q < p from h2) (by omega)⟩
  | succ k ih =>
    intro p h
    rw [wrd_s]
    split
    · rename_i z
      obtain ⟨a, c, d⟩ := ih (p + 1) (by omega)
      refine ⟨by omega, c, fun q h1 h2 => ?_⟩
      by_cases e : q = p
      · rw [e]; exact z.2
      · exact d q (by omega) h2
    · exact ⟨Nat.le_refl _, h, fun q h1 h2 => absurd h2 (by omega)⟩
/-- a token, as it must be -/
def LOk (b : Nat → Int32) (n : Nat) (x : Lx) : Prop := (x.1 = 0 → x.2.1 = n) ∧ x.1 ≤ 4 ∧ x.2.1 ≤ n ∧ x.2.2 ≤ n ∧ (x.1 ≠ 0 → x.2.1 < x.2.2) ∧ (x.1 = 2 → ∀ p, x.2.1 ≤ p → p < x.2.2 → 48 ≤ b p ∧ b p ≤ 57)
theorem advL_ok {b : Nat → Int32} {n : Nat} {x : Lx} (h : x.2.2 ≤ n) : LOk b n (advL b n x) ∧ x.2.2 ≤ (advL b n x).2.1 := by
  have h1 := skp_b (b := b) (n := n) (n - x.2.2) x.2.2 h
  unfold advL
  generalize skp b n (n - x.2.2) x.2.2 = p at h1
  have h2 := sAt_le b n p
  have h0 := @sAt_0 b n p
  unfold lxS
  split
  · rename_i z
    refine ⟨⟨fun q => absurd q (by show ¬ (3 : Nat) = 0; omega), by show 3 ≤ 4; omega, h1.2, ?_, fun _ => by show p < p + 1; omega, fun q => absurd q (by show ¬ (3 : Nat) = 2; omega)⟩, h1.1⟩
    show p + 1 ≤ n
    omega
  · split
    · rename_i z1 z
      refine ⟨⟨fun _ => ?_, by show 0 ≤ 4; omega, h1.2, h1.2, fun q => absurd rfl q, fun q => absurd q (by show ¬ (0 : Nat) = 2; omega)⟩, h1.1⟩
      show p = n
      have := h0.mp z
      omega
    · rename_i z1 z2
      have hp : p < n := by
        rcases Nat.lt_or_ge p n with q | q
        · exact q
        · exact absurd (h0.mpr q) z2
      obtain ⟨w1, w2, w3⟩ := wrd_b (b := b) (n := n) (s := sAt b n p) (n - p) p (by omega)
      have w4 : p < wrd b n (sAt b n p) (n - p) p := by
        obtain ⟨k, hk⟩ : ∃ k, n - p = k + 1 := ⟨n - p - 1, by omega⟩
        rw [hk, wrd_s, if_pos ⟨hp, rfl⟩]
        have := (wrd_b (b := b) (n := n) (s := sAt b n p) k (p + 1) (by omega)).1
        omega
      refine ⟨⟨fun q => ?_, ?_, h1.2, w2, fun _ => w4, fun q p' q1 q2 => ?_⟩, h1.1⟩
      · exfalso
        revert q
        show (if (x.1 = 1 ∨ x.1 = 2) ∧ p = x.2.2 then 4 else sAt b n p) = 0 → False
        split
        · intro q; omega
        · intro q; exact z2 q
      · show (if (x.1 = 1 ∨ x.1 = 2) ∧ p = x.2.2 then 4 else sAt b n p) ≤ 4
        split <;> omega
      · have q : (if (x.1 = 1 ∨ x.1 = 2) ∧ p = x.2.2 then 4 else sAt b n p) = 2 := q
        have e : sAt b n p = 2 := by
          split at q
          · exact absurd q (by decide)
          · exact q
        have := w3 p' q1 q2
        rw [e] at this
        exact sAt_2 this
/-! what stands at a token -/
def lvO (v : Int32) : Option Nat := if v = 124 then some 0 else if v = 38 then some 1 else if v = 60 then some 2 else if v = 61 then some 2 else if v = 62 then some 2 else if v = 43 then some 3 else if v = 45 then some 3 else if v = 42 then some 4 else if v = 47 then some 4 else none
def sgO (v : Int32) : Option Int32 := if v = 124 then some (-1) else if v = 38 then some (-2) else if v = 60 then some (-3) else if v = 61 then some (-4) else if v = 62 then some (-5) else if v = 43 then some (-6) else if v = 45 then some (-7) else if v = 42 then some (-8) else if v = 47 then some (-9) else none
def lvH (b : Nat → Int32) (x : Lx) : Option Nat := if x.1 = 3 then lvO (b x.2.1) else none
def sgH (b : Nat → Int32) (x : Lx) : Option Int32 := if x.1 = 3 then sgO (b x.2.1) else none
def isG (b : Nat → Int32) (c : Int32) (x : Lx) : Prop := x.1 = 3 ∧ b x.2.1 = c
def rk (k : Int32) : Nat := if k = -1 then 1 else if k = -2 then 2 else if -5 ≤ k then 3 else if -7 ≤ k then 4 else if -9 ≤ k then 5 else 6
theorem sg_lv (v : Int32) : (lvO v = none ∧ sgO v = none) ∨ ∃ l k, lvO v = some l ∧ sgO v = some k ∧ rk k = l + 1 ∧ l ≤ 4 ∧ enS k = -v ∧ isS k ∧ v ≠ 41 ∧ k < 0 ∧ k ≠ -10 ∧ k ≠ -11 := by
  unfold lvO sgO
  by_cases h1 : v = 124
  · subst h1; exact Or.inr ⟨0, -1, rfl, rfl, by decide, by decide, by decide, by unfold isS; decide, by decide, by decide, by decide, by decide⟩
  by_cases h2 : v = 38
  · subst h2; exact Or.inr ⟨1, -2, rfl, rfl, by decide, by decide, by decide, by unfold isS; decide, by decide, by decide, by decide, by decide⟩
  by_cases h3 : v = 60
  · subst h3; exact Or.inr ⟨2, -3, rfl, rfl, by decide, by decide, by decide, by unfold isS; decide, by decide, by decide, by decide, by decide⟩
  by_cases h4 : v = 61
  · subst h4; exact Or.inr ⟨2, -4, rfl, rfl, by decide, by decide, by decide, by unfold isS; decide, by decide, by decide, by decide, by decide⟩
  by_cases h5 : v = 62
  · subst h5; exact Or.inr ⟨2, -5, rfl, rfl, by decide, by decide, by decide, by unfold isS; decide, by decide, by decide, by decide, by decide⟩
  by_cases h6 : v = 43
  · subst h6; exact Or.inr ⟨3, -6, rfl, rfl, by decide, by decide, by decide, by unfold isS; decide, by decide, by decide, by decide, by decide⟩
  by_cases h7 : v = 45
  · subst h7; exact Or.inr ⟨3, -7, rfl, rfl, by decide, by decide, by decide, by unfold isS; decide, by decide, by decide, by decide, by decide⟩
  by_cases h8 : v = 42
  · subst h8; exact Or.inr ⟨4, -8, rfl, rfl, by decide, by decide, by decide, by unfold isS; decide, by decide, by decide, by decide, by decide⟩
  by_cases h9 : v = 47
  · subst h9; exact Or.inr ⟨4, -9, rfl, rfl, by decide, by decide, by decide, by unfold isS; decide, by decide, by decide, by decide, by decide⟩
  exact Or.inl ⟨by rw [if_neg h1, if_neg h2, if_neg h3, if_neg h4, if_neg h5, if_neg h6, if_neg h7, if_neg h8, if_neg h9], by rw [if_neg h1, if_neg h2, if_neg h3, if_neg h4, if_neg h5, if_neg h6, if_neg h7, if_neg h8, if_neg h9]⟩
def nmO (key : Nat) (v : Int32) : Option Nat := if key = 0 then (if v = 99 then some 0 else if v = 103 then some 1 else if v = 115 then some 2 else none) else if key = 1 then (if v = 99 then some 0 else if v = 104 then some 1 else none) else (if v = 112 then some 0 else if v = 104 then some 1 else none)
theorem nmO_b {key : Nat} {v : Int32} {j : Nat} (h : nmO key v = some j) : j < 3 ∧ (key = 0 ∨ j < 2) := by
  unfold nmO at h
  split at h
  · rename_i k0
    refine ⟨?_, Or.inl k0⟩
    split at h
    · cases h; decide
    · split at h
      · cases h; decide
      · split at h
        · cases h; decide
        · cases h
  · split at h
    · split at h
      · cases h; exact ⟨by decide, Or.inr (by decide)⟩
      · split at h
        · cases h; exact ⟨by decide, Or.inr (by decide)⟩
        · cases h
    · split at h
      · cases h; exact ⟨by decide, Or.inr (by decide)⟩
      · split at h
        · cases h; exact ⟨by decide, Or.inr (by decide)⟩
        · cases h
def nmb (b : Nat → Int32) : Nat → Nat → Int32 → Int32
  | 0, _, v => v
  | k + 1, p, v => nmb b k (p + 1) (v * 10 + (b p - 48))
theorem nmb_s (b : Nat → Int32) (k p : Nat) (v : Int32) : nmb b (k + 1) p v = nmb b k (p + 1) (v * 10 + (b p - 48)) := rfl
theorem dig_n {v : Int32} (h : 48 ≤ v ∧ v ≤ 57) : ∃ j, j < 10 ∧ v = nI (48 + j) := by
  have e1 : (48 : Int32).toInt = 48 := by decide
  have e2 : (57 : Int32).toInt = 57 := by decide
  have h1 := Int32.le_iff_toInt_le.mp h.1
  have h2 := Int32.le_iff_toInt_le.mp h.2
  rw [e1] at h1
  rw [e2] at h2
  refine ⟨v.toInt.toNat - 48, by omega, toI_inj (by omega) (by omega)⟩
theorem nmb_b {b : Nat → Int32} : ∀ (k p a : Nat), (∀ q, p ≤ q → q < p + k → 48 ≤ b q ∧ b q ≤ 57) → ∃ c, nmb b k p (nI a) = nI c ∧ c < (a + 1) * 10 ^ k := by
  intro k
  induction k with
  | zero => intro p a _; exact ⟨a, rfl, by rw [Nat.pow_zero]; omega⟩
  | succ k ih =>
    intro p a h
    obtain ⟨j, hj, e⟩ := dig_n (h p (Nat.le_refl _) (by omega))
    have e1 : nI a * 10 + (b p - 48) = nI (a * 10 + j) := by
      rw [e, show (48 : Int32) = nI 48 from rfl, pk_sub (by omega), show (10 : Int32) = nI 10 from rfl, pk_mul, nI_add, show 48 + j - 48 = j by omega]
    rw [nmb_s, e1]
    obtain ⟨c, hc, hl⟩ := ih (p + 1) (a * 10 + j) (fun q h1 h2 => h q (by omega) (by omega))
    refine ⟨c, hc, Nat.lt_of_lt_of_le hl ?_⟩
    rw [Nat.pow_succ, ← Nat.mul_assoc, Nat.mul_right_comm]
    exact Nat.mul_le_mul_right _ (by omega)
/-- an operand -/
def prt (key : Nat) (b : Nat → Int32) (x : Lx) : Option Int32 := if x.1 = 2 then (if x.2.2 - x.2.1 ≤ 4 then some (nmb b (x.2.2 - x.2.1) x.2.1 0) else none) else if x.1 = 1 then (if x.2.2 - x.2.1 = 1 then (nmO key (b x.2.1)).map (fun j => nI (10000 + j)) else none) else none
theorem prt_num {b : Nat → Int32} {n : Nat} {x : Lx} (h : LOk b n x) (h2 : x.1 = 2) (h4 : x.2.2 - x.2.1 ≤ 4) : ∃ c, c < 10000 ∧ nmb b (x.2.2 - x.2.1) x.2.1 0 = nI c := by
  obtain ⟨c, hc, hl⟩ := nmb_b (b := b) (x.2.2 - x.2.1) x.2.1 0 (fun q h1 h3 => h.2.2.2.2.2 h2 q h1 (by omega))
  refine ⟨c, ?_, hc⟩
  have : 10 ^ (x.2.2 - x.2.1) ≤ 10 ^ 4 := Nat.pow_le_pow_right (by decide) h4
  omega
theorem prt_b {key n : Nat} {b : Nat → Int32} {x : Lx} {v : Int32} (h : LOk b n x) (hp : prt key b x = some v) : ¬ v < 0 ∧ (10000 ≤ v → ∃ j, j < 3 ∧ v = nI (10000 + j)) ∧ (key = 0 ∨ v ≠ nI 10002) ∧ (x.1 = 1 ∨ x.1 = 2) := by
  unfold prt at hp
  split at hp
  · rename_i x2
    split at hp
    · rename_i x4
      obtain ⟨c, hc, e⟩ := prt_num h x2 x4
      rw [e] at hp
      cases hp
      refine ⟨nI_pos (by omega), fun z => absurd z (nI_ge (b := 10000) hc (by decide)), Or.inr (fun z => ?_), Or.inr x2⟩
      have := (nI_eq (by omega) (by omega)).mp z
      omega
    · cases hp
  · split at hp
    · rename_i x1
      split at hp
      · cases hm : nmO key (b x.2.1) with
        | none => rw [hm] at hp; cases hp
        | some j =>
          rw [hm] at hp
          have hp : nI (10000 + j) = v := Option.some.inj hp
          subst hp
          obtain ⟨j1, j2⟩ := nmO_b hm
          refine ⟨nI_pos (by omega), fun _ => ⟨j, j1, rfl⟩, ?_, Or.inl x1⟩
          rcases j2 with j2 | j2
          · exact Or.inl j2
          · refine Or.inr (fun z => ?_)
            have := (nI_eq (by omega) (by omega)).mp z
            omega
      · cases hp
    · cases hp

