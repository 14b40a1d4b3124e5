/-! ===== what is made stands as it must ===== -/
theorem ptr0_far {i j : Nat} (hi : i < 77) (hj : 33 ≤ j) : ptr0 i j = none := by
  unfold ptr0
  rw [List.getD_eq_getElem?_getD, List.getElem?_eq_none (Nat.le_trans ?_ hj)]
  · rfl
  · revert i
    decide +kernel
theorem s0_SHP : SHP k9S64 := by
  refine ⟨by decide +kernel, by decide +kernel, by decide +kernel, fun i j hi h1 h2 => ?_⟩
  by_cases hj : j < 33
  · rcases (by decide +kernel : ∀ i, i < 77 → ∀ j, j < 33 → i = 26 ∨ (i = 27 ∧ j = 0) ∨ k9S64.2.2 i j = ptr0 i j) i hi j hj with q | q | q
    · exact absurd q h1
    · rcases h2 with h2 | h2
      · exact absurd q.1 h2
      · exact absurd q.2 h2
    · exact q
  · rw [k9B64 i j (by omega)]
    exact (ptr0_far hi (by omega)).symm
theorem s0_a : ∀ i, i < 61 → aC 1 k9M64 i = aR k9M64 i := by decide +kernel
theorem s0_aa : aC 1 k9M64 = aR k9M64 := by
  funext i
  by_cases hi : i < 61
  · exact s0_a i hi
  · rw [Z_C 1 k9M64 i (by omega), Z_R k9M64 i (by omega)]
theorem s0_b : ∀ b, b < 9 → aR k9M64 (16 + 5 * b) = 0 ∧ aR k9M64 (17 + 5 * b) = nI 0 ∧ aR k9M64 (18 + 5 * b) = nI 0 ∧ aR k9M64 (19 + 5 * b) = 0 := by decide +kernel
theorem s0_KN : KN (aR k9M64) := by
  refine ⟨⟨0, by decide, by decide +kernel, by decide, Or.inl (by decide +kernel), ⟨8, by decide, by decide +kernel⟩, fun b hb => ⟨Or.inl (s0_b b hb).1, ⟨0, by decide, (s0_b b hb).2.1⟩, ⟨0, by decide, (s0_b b hb).2.2.1⟩⟩⟩, ⟨0, by decide, by decide +kernel, fun b hb => ?_⟩, fun c hc => ⟨0, by decide, (by decide +kernel : ∀ c, c < 8 → aR k9M64 (8 + c) = nI 0) c hc⟩⟩
  rw [(s0_b b hb).2.2.2]
  decide
theorem s0_KS : KS k9M64 := fun i hi => by
  obtain ⟨a, b, c⟩ := (by decide +kernel : ∀ i, i < 4 → k9M64 68 i = -1 ∧ k9M64 69 i = nI 0 ∧ ∀ k, k < 24 → k9M64 70 (24 * i + k) = 0) i hi
  refine ⟨Or.inl a, ⟨0, by decide, b⟩, fun k hk => Or.inr ?_⟩
  rw [c k hk]
  decide
theorem s0_KL : KL k9M64 := fun i hi => by
  have a := (by decide +kernel : ∀ i, i < 5 → k9M64 71 i = 0) i hi
  exact ⟨Or.inl a, fun z => absurd (a.symm.trans z) (by decide), fun z => absurd (a.symm.trans z) (by decide)⟩
theorem s0_KY : KY k9M64 := by
  unfold KY
  decide +kernel
theorem s0_CS : CS k9M64 k9M64 := by
  unfold CS
  decide +kernel
theorem s0_CL : CL k9M64 k9M64 := by
  unfold CL
  decide +kernel
theorem s0_CW : CW k9M64 k9M64 := by
  unfold CW
  decide +kernel
theorem s0_CP : CP k9M64 k9M64 := by
  unfold CP
  decide +kernel
theorem s0_K : K k9S64 k9M64 k9M64 0 0 (fun _ => (0, 0, 0, fun _ => 0)) :=
  ⟨⟨s0_KN, ⟨⟨by decide, by decide +kernel, fun t ht => absurd ht (Nat.not_lt_zero t)⟩, fun t ht => absurd ht (Nat.not_lt_zero t)⟩, Nat.le_refl _, ⟨Or.inl (by decide +kernel), fun z => absurd z (by decide +kernel)⟩, s0_KS, s0_KL, ⟨0, by decide, by decide +kernel⟩, ⟨0, by decide, by decide +kernel⟩, s0_KY⟩,
    s0_SHP, s0_aa, ⟨by decide +kernel, fun z => absurd z (by decide +kernel)⟩, ⟨by decide, fun t ht => absurd ht (Nat.not_lt_zero t)⟩, ⟨alD, Or.inl ⟨by decide +kernel, rfl⟩⟩, s0_CS, s0_CL, s0_CW, s0_CP⟩
/-! only the reference's cells are others -/
theorem K.mvI {S : Shp} {I J T : Mem} {tn bn : Nat} {tx : Nat → Tx} (h : K S I T tn bn tx) (hf : ∀ x, (x < 55 ∨ 77 ≤ x) → J x = I x) : K S J T tn bn tx := by
  obtain ⟨-, -, -, -, -, c7, c8, c9, c10⟩ := id h.2
  exact ⟨h.1, h.2.im (fun x hx => hf x (by omega)) (by rw [hf 0 (by omega)]) rfl rfl rfl (c7.mv (fun x h1 h2 => hf x (by omega)) rfl rfl rfl) (c8.mv (fun x h1 h2 => hf x (by omega)) rfl rfl rfl rfl) (c9.mv (by rw [hf 0 (by omega)]) (hf 31 (by omega)) rfl rfl) (c10.mv (by rw [hf 23 (by omega)]) (hf 24 (by omega)) rfl rfl)⟩
theorem K.nxt {S : Shp} {I J U : Mem} {tn bn : Nat} {tx : Nat → Tx} (h : K S I U tn bn tx) (hr : RE U J) (hf : ∀ x, (x < 55 ∨ 77 ≤ x) → J x = I x) : K S J J tn bn tx := (h.re hr).mvI hf

