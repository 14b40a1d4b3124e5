/-! purses stay small -/
theorem i_addI {a b : Int32} (h1 : -2147483648 ≤ a.toInt + b.toInt) (h2 : a.toInt + b.toInt ≤ 2147483647) : (a + b).toInt = a.toInt + b.toInt := by
  rw [Int32.toInt_add]
  unfold Int.bmod
  dsimp only
  omega
theorem i_subI {a b : Int32} (h1 : -2147483648 ≤ a.toInt - b.toInt) (h2 : a.toInt - b.toInt ≤ 2147483647) : (a - b).toInt = a.toInt - b.toInt := by
  rw [Int32.toInt_sub]
  unfold Int.bmod
  dsimp only
  omega
def BM (A : Nat → Int32) (M : Int) : Prop := ∀ b, b < 9 → -M ≤ (A (19 + 5 * b)).toInt ∧ (A (19 + 5 * b)).toInt ≤ M
theorem BM.up {A : Nat → Int32} {M : Int} (h : BM A M) {i : Nat} {v : Int32} (hi : ∀ b, 19 + 5 * b ≠ i) : BM (upd A i v) M := fun b hb => by rw [upd_n (hi b)]; exact h b hb
theorem BM.le {A : Nat → Int32} {M N : Int} (h : BM A M) (hm : M ≤ N) : BM A N := fun b hb => ⟨by have := (h b hb).1; omega, by have := (h b hb).2; omega⟩
theorem kGift_n {k q : Int32} {p m g : Nat} (hk : isK k) (hp : p ≤ 99) (hm : m ≤ 9) : ∃ v, v ≤ 200 ∧ kGift k (nI p) (nI m) (nI g) q = nI v := by
  have e3 : nI m / 3 = nI (m / 3) := by rw [show (3 : Int32) = nI 3 from rfl, pk_div (by omega) (by decide) (by decide)]
  have ea : nI p + nI m / 3 = nI (p + m / 3) := by rw [e3, nI_add]
  have gcn : ∃ v, v ≤ 198 ∧ gc (nI p) (nI m) = nI v := by
    unfold gc
    split
    · exact ⟨p, by omega, rfl⟩
    · exact ⟨2 * p, by omega, by rw [show (2 : Int32) = nI 2 from rfl, pk_mul]⟩
  obtain ⟨w0, hw, eg⟩ := gcn
  rcases hk with rfl | rfl | rfl | rfl | rfl | rfl
  · exact ⟨p, by omega, rfl⟩
  · exact ⟨p + m / 3, by omega, ea⟩
  · exact ⟨w0, by omega, eg⟩
  · show ∃ v, v ≤ 200 ∧ (if q = 0 then nI p + nI m / 3 else (nI p + nI m / 3) / 2) = nI v
    rw [ea]
    split
    · exact ⟨p + m / 3, by omega, rfl⟩
    · exact ⟨(p + m / 3) / 2, by omega, by rw [show (2 : Int32) = nI 2 from rfl, pk_div (by omega) (by decide) (by decide)]⟩
  · show ∃ v, v ≤ 200 ∧ (if nI m < 8 then gc (nI p) (nI m) else 0) = nI v
    split
    · exact ⟨w0, by omega, eg⟩
    · exact ⟨0, by omega, rfl⟩
  · show ∃ v, v ≤ 200 ∧ (if 3 ≤ nI g then (if nI p - 1 < 0 then 0 else nI p - 1) else 0) = nI v
    split
    · split
      · exact ⟨0, by omega, rfl⟩
      · rename_i h
        cases p with
        | zero => exact absurd (by decide) h
        | succ p => exact ⟨p, by omega, nI_pred p⟩
    · exact ⟨0, by omega, rfl⟩
theorem aGift_n {al : Int32 → Int32 → Int32 → Int32} {A : Nat → Int32} {b c m g n : Nat} (hal : AlN al) (hw : WA A n) (hb : b < 9) (c1 : 1 ≤ c) (c9 : c ≤ 9) (g9 : g ≤ 9) (hm : m ≤ 9) : ∃ v, v ≤ 200 ∧ aGift al A b c (nI m) g = nI v := by
  obtain ⟨hk, -, s, hs, es⟩ := hw.2.2.2.2 b hb
  obtain ⟨p, hp, ep⟩ := hal c g s c1 c9 g9 hs
  unfold aGift
  rw [es, ep]
  exact kGift_n hk hp hm
theorem aStep_j {al : Int32 → Int32 → Int32 → Int32} {c m n b : Nat} {co : Int32} {q : Nat × (Nat → Int32)} {M : Int} (hal : AlN al) (hw : WA q.2 n) (hb : b < 9) (c1 : 1 ≤ c) (c9 : c ≤ 9) (g9 : q.1 ≤ 9) (hm : m ≤ 9) (hM : M ≤ 2000000000) (h : -M ≤ (q.2 (19 + 5 * b)).toInt ∧ (q.2 (19 + 5 * b)).toInt ≤ M) : -(M + 200) ≤ ((aStep al c (nI m) co b q).2 (19 + 5 * b)).toInt ∧ ((aStep al c (nI m) co b q).2 (19 + 5 * b)).toInt ≤ M + 200 := by
  obtain ⟨v, hv, ev⟩ := aGift_n hal hw hb c1 c9 g9 hm
  unfold aStep
  dsimp only
  by_cases hc : q.2 (17 + 5 * b) = co
  · rw [if_pos hc, ev]
    split
    · have e : upd (upd q.2 (19 + 5 * b) (q.2 (19 + 5 * b) + nI v)) (20 + 5 * b) (q.2 (20 + 5 * b) + 1) (19 + 5 * b) = q.2 (19 + 5 * b) + nI v := by rw [upd_n (by omega), upd_s]
      have et : (nI v).toInt = (v : Int) := nI_toInt (by omega)
      show -(M + 200) ≤ (upd (upd q.2 (19 + 5 * b) (q.2 (19 + 5 * b) + nI v)) (20 + 5 * b) (q.2 (20 + 5 * b) + 1) (19 + 5 * b)).toInt ∧ (upd (upd q.2 (19 + 5 * b) (q.2 (19 + 5 * b) + nI v)) (20 + 5 * b) (q.2 (20 + 5 * b) + 1) (19 + 5 * b)).toInt ≤ M + 200
      rw [e, i_addI (by omega) (by omega)]
      omega
    · omega
  · rw [if_neg hc, if_neg (by decide)]
    omega
theorem aIn_j {al : Int32 → Int32 → Int32 → Int32} {c m n j : Nat} {co : Int32} {M : Int} (hal : AlN al) (c1 : 1 ≤ c) (c9 : c ≤ 9) (hm : m ≤ 9) (hM : M ≤ 2000000000) : ∀ (k b : Nat) (q : Nat × (Nat → Int32)), b + k ≤ 9 → WA q.2 n → q.1 ≤ 9 → -M ≤ (q.2 (19 + 5 * j)).toInt ∧ (q.2 (19 + 5 * j)).toInt ≤ M → (j < b → (aIn al c (nI m) co k b q).2 (19 + 5 * j) = q.2 (19 + 5 * j)) ∧ -(M + 200) ≤ ((aIn al c (nI m) co k b q).2 (19 + 5 * j)).toInt ∧ ((aIn al c (nI m) co k b q).2 (19 + 5 * j)).toInt ≤ M + 200 := by
  intro k
  induction k with
  | zero => intro b q hb hw hg h; exact ⟨fun _ => rfl, by show -(M + 200) ≤ (q.2 (19 + 5 * j)).toInt; omega, by show (q.2 (19 + 5 * j)).toInt ≤ M + 200; omega⟩
  | succ k ih =>
    intro b q hb hw hg h
    show (j < b → (aIn al c (nI m) co k (b + 1) (aStep al c (nI m) co b q)).2 (19 + 5 * j) = q.2 (19 + 5 * j)) ∧ -(M + 200) ≤ ((aIn al c (nI m) co k (b + 1) (aStep al c (nI m) co b q)).2 (19 + 5 * j)).toInt ∧ ((aIn al c (nI m) co k (b + 1) (aStep al c (nI m) co b q)).2 (19 + 5 * j)).toInt ≤ M + 200
    have hw' := aStep_wa (al := al) (c := c) (m := nI m) (co := co) (b := b) hw
    have hg' := aStep_g (al := al) (c := c) (m := nI m) (co := co) (b := b) hg
    by_cases hj : j = b
    · subst hj
      have hs := aStep_j (co := co) hal hw (by omega) c1 c9 hg hm hM h
      have e : (aIn al c (nI m) co k (j + 1) (aStep al c (nI m) co j q)).2 (19 + 5 * j) = (aStep al c (nI m) co j q).2 (19 + 5 * j) := by
        have aux : ∀ (k b : Nat) (q : Nat × (Nat → Int32)), j < b → (aIn al c (nI m) co k b q).2 (19 + 5 * j) = q.2 (19 + 5 * j) := by
          intro k
          induction k with
          | zero => intro b q _; rfl
          | succ k ih2 => intro b q hjb; exact (ih2 (b + 1) _ (by omega)).trans (aStep_ne (by omega) (by omega))
        exact aux k (j + 1) _ (by omega)
      rw [e]
      exact ⟨fun z => by omega, hs⟩
    · have e : (aStep al c (nI m) co b q).2 (19 + 5 * j) = q.2 (19 + 5 * j) := aStep_ne (by omega) (by omega)
      have := ih (b + 1) (aStep al c (nI m) co b q) (by omega) hw' hg' (by rw [e]; exact h)
      rw [e] at this
      exact ⟨fun z => this.1 (by omega), this.2⟩
theorem aOut_B {al : Int32 → Int32 → Int32 → Int32} {c m n : Nat} {pt : Nat → Int32} (hal : AlN al) (c1 : 1 ≤ c) (c9 : c ≤ 9) (hm : m ≤ 9) (hn : n ≤ 9) : ∀ (k i : Nat) (q : Nat × (Nat → Int32)) (M : Int), M + 200 * k ≤ 2000000000 → WA q.2 n → q.1 ≤ 9 → BM q.2 M → BM (aOut al c (nI m) n pt k i q).2 (M + 200 * k) := by
  intro k
  induction k with
  | zero => intro i q M hM hw hg h; exact h.le (by omega)
  | succ k ih =>
    intro i q M hM hw hg h
    show BM (aOut al c (nI m) n pt k (i + 1) (aIn al c (nI m) (pt i) n 0 q)).2 (M + 200 * ((k + 1 : Nat) : Int))
    have hi := aIn_wa (al := al) (c := c) (m := nI m) (co := pt i) n 0 q hw hg
    have h2 : BM (aIn al c (nI m) (pt i) n 0 q).2 (M + 200) := fun b hb => (aIn_j (j := b) (co := pt i) hal c1 c9 hm (by omega) n 0 q (by omega) hw hg (h b hb)).2
    exact (ih (i + 1) _ (M + 200) (by omega) hi.1 hi.2 h2).le (by omega)
theorem aWalk_B {al : Int32 → Int32 → Int32 → Int32} {f t c m n : Nat} {A : Nat → Int32} {M : Int} (hal : AlN al) (c1 : 1 ≤ c) (c9 : c ≤ 9) (hm : m ≤ 9) (hn : n ≤ 9) (f7 : f ≤ 7) (t7 : t ≤ 7) (hM : M ≤ 1900000000) (hw : WA A n) (h : BM A M) : BM (aWalk al f t c (nI m) n A) (M + 1600) := by
  have hp : pn f t ≤ 8 := by unfold pn; split <;> omega
  exact (aOut_B hal c1 c9 hm hn (pn f t) 0 (9, A) M (by omega) hw (Nat.le_refl 9) h).le (by omega)
theorem aPass_B {al : Int32 → Int32 → Int32 → Int32} {n : Nat} {A : Nat → Int32} {M : Int} (hal : AlN al) (hn : n ≤ 9) (hM : M ≤ 1900000000) (hw : WA A n) (h : BM A M) : BM (aPass al n A) (M + 1600) := by
  unfold aPass
  generalize zn (zn (zn (zn (A 0)))) = z4
  generalize zn (zn (zn (A 0))) = z3
  generalize zn (zn (A 0)) = z2
  generalize zn (A 0) = z1
  exact aWalk_B hal (by omega) (by omega) (by omega) hn (by omega) (by omega) hM (hw.z _) (h.up (fun b => by omega))
theorem it_B {F : (Nat → Int32) → (Nat → Int32)} {n : Nat} {D : Int} (hD : 0 ≤ D) (hF : ∀ A M, M ≤ 1900000000 → WA A n → BM A M → WA (F A) n ∧ BM (F A) (M + D)) : ∀ (k : Nat) (A : Nat → Int32) (M : Int), M + D * k ≤ 1900000000 → WA A n → BM A M → BM (it F k A) (M + D * k) := by
  intro k
  induction k with
  | zero => intro A M hM hw h; exact h.le (by simp)
  | succ k ih =>
    intro A M hM hw h
    rw [it_s]
    have hk : D * ((k + 1 : Nat) : Int) = D * (k : Int) + D := by rw [Int.natCast_add, Int.mul_add]; simp
    have hk0 : 0 ≤ D * (k : Int) := Int.mul_nonneg hD (by omega)
    obtain ⟨h1, h2⟩ := hF A M (by omega) hw h
    exact (ih (F A) (M + D) (by omega) h1 h2).le (by omega)
theorem aPs_B {al : Int32 → Int32 → Int32 → Int32} {n : Nat} {A : Nat → Int32} {M : Int} (hal : AlN al) (hn : n ≤ 9) (hM : M ≤ 1800000000) (hw : WA A n) (h : BM A M) : BM (aPs al n A) (M + 4800) := by
  unfold aPs aPsN
  have hF : ∀ A M, M ≤ 1900000000 → WA A n → BM A M → WA (aPass al n A) n ∧ BM (aPass al n A) (M + 1600) := fun A M h1 h2 h3 => ⟨aPass_wa h2, aPass_B hal hn h1 h2 h3⟩
  split
  · exact (it_B (by decide) hF 3 A M (by omega) hw h).le (by omega)
  · exact (it_B (by decide) hF 2 A M (by omega) hw h).le (by omega)
theorem aFun_B {al : Int32 → Int32 → Int32 → Int32} {n : Nat} {A : Nat → Int32} {M : Int} (hal : AlN al) (hn : n ≤ 9) (hM : M ≤ 1800000000) (hw : WA A n) (h : BM A M) : BM (aFun al n A) (M + 1600) := by
  unfold aFun
  split
  · exact h.le (by omega)
  · rename_i h8
    obtain ⟨f, hf, ef⟩ := hw.2.2.2.1
    have hf7 : f ≤ 7 := by
      have : f ≠ 8 := fun z => h8 (by rw [ef, z]; rfl)
      omega
    rw [ef, nI_clamp (by omega)]
    exact aWalk_B hal (by decide) (by decide) (m := 9) (by decide) hn hf7 hf7 (by omega) hw h
/-- rents -/
def RR (A : Nat → Int32) : Prop := ∀ c, c < 8 → ∃ r, r ≤ 9 ∧ A (8 + c) = nI r
theorem RR.up {A : Nat → Int32} (h : RR A) {i : Nat} {v : Int32} (hi : ∀ c, c < 8 → 8 + c ≠ i) : RR (upd A i v) := fun c hc => by rw [upd_n (hi c hc)]; exact h c hc
theorem aPayS_R {b : Nat} {A : Nat → Int32} (h : RR A) : RR (aPayS b A) := by
  unfold aPayS
  split
  · exact h
  · exact (h.up (fun c hc => by omega)).up (fun c hc => by omega)
theorem aPayS_j {b n : Nat} {A : Nat → Int32} {M : Int} (hw : WA A n) (hr : RR A) (hb : b < 9) (hM : M ≤ 2000000000) (h : -M ≤ (A (19 + 5 * b)).toInt ∧ (A (19 + 5 * b)).toInt ≤ M) : -(M + 9) ≤ (aPayS b A (19 + 5 * b)).toInt ∧ (aPayS b A (19 + 5 * b)).toInt ≤ M + 9 := by
  obtain ⟨-, ⟨c, hc, ec⟩, -⟩ := hw.2.2.2.2 b hb
  unfold aPayS
  split
  · omega
  · rename_i h8
    have hc7 : c < 8 := by
      have : c ≠ 8 := fun z => h8 (by rw [ec, z]; rfl)
      omega
    obtain ⟨r, hr9, er⟩ := hr c hc7
    rw [upd_n (by omega), upd_s, ec, nI_clamp (by omega), er, i_subI, nI_toInt (by omega)]
    · omega
    · rw [nI_toInt (by omega)]; omega
    · rw [nI_toInt (by omega)]; omega
theorem aPayS_ne {b i : Nat} {A : Nat → Int32} (h1 : i ≠ 19 + 5 * b) (h2 : i ≠ 6) : aPayS b A i = A i := by
  unfold aPayS
  split
  · rfl
  · rw [upd_n h2, upd_n h1]
theorem aPay_ne {i : Nat} (h2 : i ≠ 6) : ∀ (k b : Nat) (A : Nat → Int32), (∀ j, b ≤ j → i ≠ 19 + 5 * j) → aPay k b A i = A i := by
  intro k
  induction k with
  | zero => intro b A _; rfl
  | succ k ih => intro b A h; exact (ih (b + 1) (aPayS b A) (fun j hj => h j (by omega))).trans (aPayS_ne (h b (by omega)) h2)
theorem aPay_j {n j : Nat} {M : Int} (hM : M ≤ 2000000000) : ∀ (k b : Nat) (A : Nat → Int32), b + k ≤ 9 → WA A n → RR A → -M ≤ (A (19 + 5 * j)).toInt ∧ (A (19 + 5 * j)).toInt ≤ M → -(M + 9) ≤ (aPay k b A (19 + 5 * j)).toInt ∧ (aPay k b A (19 + 5 * j)).toInt ≤ M + 9 := by
  intro k
  induction k with
  | zero => intro b A hb hw hr h; show -(M + 9) ≤ (A (19 + 5 * j)).toInt ∧ (A (19 + 5 * j)).toInt ≤ M + 9; omega
  | succ k ih =>
    intro b A hb hw hr h
    show -(M + 9) ≤ (aPay k (b + 1) (aPayS b A) (19 + 5 * j)).toInt ∧ (aPay k (b + 1) (aPayS b A) (19 + 5 * j)).toInt ≤ M + 9
    by_cases hj : j = b
    · subst hj
      rw [aPay_ne (by omega) k (j + 1) _ (fun i hi => by omega)]
      exact aPayS_j hw hr (by omega) hM h
    · exact ih (b + 1) _ (by omega) (aPayS_wa hw) (aPayS_R hr) (by rw [aPayS_ne (by omega) (by omega)]; exact h)
theorem aPay_B {n : Nat} {A : Nat → Int32} {M : Int} (hn : n ≤ 9) (hM : M ≤ 2000000000) (hw : WA A n) (hr : RR A) (h : BM A M) : BM (aPay n 0 A) (M + 9) := fun b hb => aPay_j hM n 0 A (by omega) hw hr (h b hb)
theorem aWet_ne {A : Nat → Int32} {i : Nat} (h : i ≠ 4) : aWet A i = A i := by
  unfold aWet
  split
  · rw [upd_n h]
  · rfl
theorem aWet_B {A : Nat → Int32} {M : Int} (h : BM A M) : BM (aWet A) M := fun b hb => by rw [aWet_ne (by omega)]; exact h b hb
theorem aWet_R {A : Nat → Int32} (h : RR A) : RR (aWet A) := fun c hc => by rw [aWet_ne (by omega)]; exact h c hc
theorem it_ne {F : (Nat → Int32) → (Nat → Int32)} {i : Nat} (hF : ∀ A, F A i = A i) : ∀ (k : Nat) (A : Nat → Int32), it F k A i = A i := by
  intro k
  induction k with
  | zero => intro A; rfl
  | succ k ih => intro A; rw [it_s, ih, hF]
theorem aHour_ne {al : Int32 → Int32 → Int32 → Int32} {n i : Nat} {A : Nat → Int32} (h0 : i ≠ 0) (h4 : i ≠ 4) (h6 : i ≠ 6) (hb : ∀ b, i ≠ 19 + 5 * b ∧ i ≠ 20 + 5 * b) : aHour al n A i = if i = 2 then A 2 + 1 else A i := by
  unfold aHour aEnd
  have h1 : ∀ B, aFun al n B i = B i := by
    intro B
    unfold aFun
    split
    · rfl
    · exact aWalk_ne hb
  have h2 : ∀ B, aPs al n B i = B i := fun B => it_ne (fun C => by unfold aPass; rw [aWalk_ne hb, upd_n h0]) _ _
  by_cases hi : i = 2
  · subst hi
    rw [upd_s, h1, h2, aPay_ne h6 _ _ _ (fun j _ => (hb j).1), aWet_ne h4, upd_n h0, if_pos rfl]
  · rw [upd_n hi, h1, h2, aPay_ne h6 _ _ _ (fun j _ => (hb j).1), aWet_ne h4, upd_n h0, if_neg hi]
theorem aHour_B {al : Int32 → Int32 → Int32 → Int32} {n : Nat} {A : Nat → Int32} {M : Int} (hal : AlN al) (hn : n ≤ 9) (hM : M ≤ 1700000000) (hw : WA A n) (hr : RR A) (h : BM A M) : BM (aHour al n A) (M + 7000) := by
  have w1 : WA (upd A 0 (zn (A 0))) n := hw.z _
  have r1 : RR (upd A 0 (zn (A 0))) := hr.up (fun c hc => by omega)
  have b1 : BM (upd A 0 (zn (A 0))) M := h.up (fun b => by omega)
  have w2 := aWet_wa w1
  have b3 := aPay_B hn (by omega) w2 (aWet_R r1) (aWet_B b1)
  have w3 := aPay_wa n 0 _ w2
  have b4 := aPs_B hal hn (by omega) w3 b3
  have w4 : WA (aPs al n (aPay n 0 (aWet (upd A 0 (zn (A 0)))))) n := aPsN_wa w3
  have b5 := aFun_B hal hn (by omega) w4 b4
  unfold aHour aEnd
  exact (b5.up (fun b => by omega)).le (by omega)
theorem aHour_R {al : Int32 → Int32 → Int32 → Int32} {n : Nat} {A : Nat → Int32} (hr : RR A) : RR (aHour al n A) := fun c hc => by rw [aHour_ne (by omega) (by omega) (by omega) (fun b => ⟨by omega, by omega⟩), if_neg (by omega)]; exact hr c hc
theorem aHour_2 {al : Int32 → Int32 → Int32 → Int32} {n h : Nat} {A : Nat → Int32} (e : A 2 = nI h) : aHour al n A 2 = nI (h + 1) := by
  rw [aHour_ne (by omega) (by omega) (by omega) (fun b => ⟨by omega, by omega⟩), if_pos rfl, e, nI_1]
theorem aHrs_all {al : Int32 → Int32 → Int32 → Int32} {n : Nat} (hal : AlN al) (hn : n ≤ 9) : ∀ (k h : Nat) (A : Nat → Int32), 7000 * ((h + k : Nat) : Int) ≤ 1700000000 → WA A n → RR A → A 2 = nI h → BM A (7000 * (h : Int)) → RR (aHrs al n k A) ∧ aHrs al n k A 2 = nI (h + k) ∧ BM (aHrs al n k A) (7000 * ((h + k : Nat) : Int)) := by
  intro k
  induction k with
  | zero => intro h A _ _ h2 h3 h4; exact ⟨h2, h3, h4⟩
  | succ k ih =>
    intro h A hM h1 h2 h3 h4
    rw [aHrs_s]
    have b := aHour_B hal hn (by omega) h1 h2 h4
    have := ih (h + 1) (aHour al n A) (by omega) (aHour_wa h1) (aHour_R h2) (aHour_2 h3) (b.le (by omega))
    rw [show h + 1 + k = h + (k + 1) by omega] at this
    exact this
/-- hours keep what is kept -/
theorem KN.hrs {al : Int32 → Int32 → Int32 → Int32} {n h k : Nat} {A : Nat → Int32} (hK : KN A) (hal : AlN al) (hw : WA A n) (h2 : A 2 = nI h) (hk : h + k ≤ 9999) : KN (aHrs al n k A) := by
  obtain ⟨⟨n', hn', hw'⟩, ⟨h', hh', e', hb⟩, hr⟩ := hK
  have en : n' = n := (nI_eq (by omega) (by have := hw.2.1; omega)).mp (hw'.1.symm.trans hw.1)
  have eh : h' = h := (nI_eq (by omega) (by omega)).mp (e'.symm.trans h2)
  subst en
  subst eh
  obtain ⟨r1, r2, r3⟩ := aHrs_all hal hw.2.1 k h' A (by omega) hw hr h2 hb
  exact ⟨⟨n', hn', aHrs_wa hw⟩, ⟨h' + k, hk, r2, r3⟩, r1⟩
/-- small changes -/
theorem KN.up {A : Nat → Int32} {i : Nat} {v : Int32} (h : KN A) (h1 : ∀ n, n ≤ 8 → WA A n → WA (upd A i v) n) (h2 : i ≠ 2) (h3 : ∀ b, 19 + 5 * b ≠ i) (h4 : ∀ c, c < 8 → 8 + c = i → ∃ r, r ≤ 9 ∧ v = nI r) : KN (upd A i v) := by
  obtain ⟨⟨n, hn, hw⟩, ⟨k, hk, e, hb⟩, hr⟩ := h
  refine ⟨⟨n, hn, h1 n hn hw⟩, ⟨k, hk, by rw [upd_n (Ne.symm h2)]; exact e, fun b hb' => by rw [upd_n (h3 b)]; exact hb b hb'⟩, fun c hc => ?_⟩
  by_cases q : 8 + c = i
  · rw [q, upd_s]; exact h4 c hc q
  · rw [upd_n q]; exact hr c hc

