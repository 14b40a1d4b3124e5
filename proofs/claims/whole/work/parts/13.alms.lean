theorem P_acmp {G : GX} {own nm : String} {cc : ByteArray} {nL : Nat} {ret : Option FieldType} {d kc ks : Nat} {Q : Option Value → Shp → Mem → Prop} {pc pc' : Nat} {ls : List (Option Value)} {rest : List Value} {S : Shp} {I : Mem} {x y : Option Nat} {off : Int} {tgt : Nat} (hd : decode cc pc = .ok (.if_acmp .eq off, 3)) (ht : (pc : Int) + off = (tgt : Int)) (hp : pc + 3 = pc') (hx : ∀ a, x = some a → a < S.1) (hy : ∀ a, y = some a → a < S.1) (k1 : x = y → PW G own nm cc nL ret d kc ks Q tgt ls rest S I) (k2 : ¬ x = y → PW G own nm cc nL ret d kc ks Q pc' ls rest S I) : PW G own nm cc nL ret d kc ks Q pc ls (va_rf y :: va_rf x :: rest) S I := by
  subst hp
  intro p e R s m args below meth c0 H locs cells slots arr hC
  have e1 : ∀ z : Option Nat, em G (va_rf z) = va_rf (z.map (gA G)) := fun z => by cases z <;> rfl
  have hP := hC.2.2.2.2.2.2.2.2.2.2.1
  have hi : x.map (gA G) = y.map (gA G) → x = y := by
    intro h
    cases x with
    | none => cases y with
      | none => rfl
      | some b => cases h
    | some a => cases y with
      | none => cases h
      | some b =>
        have h : gA G a = gA G b := Option.some.inj h
        rw [gA_lt (hx a rfl) hP.2.1, gA_lt (hy b rfl) hP.2.1] at h
        have : a = b := by omega
        rw [this]
  show W _ _ _ _ _ _ _ _ _ _ _ _ _ _ _ (F0 m pc arr (em G (va_rf y) :: em G (va_rf x) :: rest.map (em G)))
  rw [e1, e1]
  exact lv_acmp_eq hC.1 hC.2.1 hd ht (fun h => k1 (hi h) p e R s m args below meth c0 H locs cells slots arr hC) (fun h => k2 (fun q => h (by rw [q])) p e R s m args below meth c0 H locs cells slots arr hC)
theorem P_qload1 {G : GX} {own nm : String} {cc : ByteArray} {nL : Nat} {ret : Option FieldType} {d kc ks : Nat} {Q : Option Value → Shp → Mem → Prop} {pc pc' : Nat} {rest : List Value} {S : Shp} {I : Mem} {x0 : Option Value} {r : List (Option Value)} {x : Option Nat} (hd : decode cc pc = .ok (.aload_n 1, 1)) (hp : pc + 1 = pc') (k : PW G own nm cc nL ret d kc ks Q pc' (x0 :: some (va_rf x) :: r) (va_rf x :: rest) S I) : PW G own nm cc nL ret d kc ks Q pc (x0 :: some (va_rf x) :: r) rest S I := by
  cases x with
  | none =>
    subst hp
    intro p e R s m args below meth c H locs cells slots arr hC
    exact lv_aload_nN hC.1 hC.2.1 hd rfl (hC.2.2.2.2.2.2.2.2.2.2.2.1.2.2 1 .null rfl) (k p e R s m args below meth c H locs cells slots arr hC)
  | some a => exact P_aload1 hd hp k
theorem P_qstore1 {G : GX} {own nm : String} {cc : ByteArray} {nL : Nat} {ret : Option FieldType} {d kc ks : Nat} {Q : Option Value → Shp → Mem → Prop} {pc pc' : Nat} {rest : List Value} {S : Shp} {I : Mem} {x0 : Option Value} {r : List (Option Value)} {o : Option Value} {x : Option Nat} (hd : decode cc pc = .ok (.astore_n 1, 1)) (hp : pc + 1 = pc') (hn : 1 < nL) (h0 : lc1 x0 = true) (k : PW G own nm cc nL ret d kc ks Q pc' (x0 :: some (va_rf x) :: r) rest S I) : PW G own nm cc nL ret d kc ks Q pc (x0 :: o :: r) (va_rf x :: rest) S I := by
  cases x with
  | none =>
    subst hp
    intro p e R s m args below meth c H locs cells slots arr hC
    obtain ⟨hx, hb, c1, c2, c3, c4, c5, c6, c7, c8, c9, hl, c10⟩ := hC
    obtain ⟨arr', e1, e2⟩ := lh_store (i := 1) (v := .null) hl hn (by simp) rfl (fun j w hj hw => by
      have : j = 0 := by omega
      subst this
      have e1 : x0 = some w := Option.some.inj hw
      rw [e1] at h0
      simpa [lc1] using h0)
    have kk := k p e R s m args below meth c H locs cells slots arr' ⟨hx, hb, c1, c2, c3, c4, c5, c6, c7, c8, c9, e2, c10⟩
    intro T hT X
    obtain ⟨t, a, b⟩ := kk T hT X
    refine ⟨t, ?_, b⟩
    jvm_step X.here [X.here.top, hx, hb, hd, em, va_rf]
    first | exact ⟨arr', e1, a⟩ | exact ⟨rfl, arr', e1, a⟩
  | some a => exact P_astore1 hd hp hn h0 k
theorem P_qload2 {G : GX} {own nm : String} {cc : ByteArray} {nL : Nat} {ret : Option FieldType} {d kc ks : Nat} {Q : Option Value → Shp → Mem → Prop} {pc pc' : Nat} {rest : List Value} {S : Shp} {I : Mem} {x0 x1 : Option Value} {r : List (Option Value)} {x : Option Nat} (hd : decode cc pc = .ok (.aload_n 2, 1)) (hp : pc + 1 = pc') (k : PW G own nm cc nL ret d kc ks Q pc' (x0 :: x1 :: some (va_rf x) :: r) (va_rf x :: rest) S I) : PW G own nm cc nL ret d kc ks Q pc (x0 :: x1 :: some (va_rf x) :: r) rest S I := by
  cases x with
  | none =>
    subst hp
    intro p e R s m args below meth c H locs cells slots arr hC
    exact lv_aload_nN hC.1 hC.2.1 hd rfl (hC.2.2.2.2.2.2.2.2.2.2.2.1.2.2 2 .null rfl) (k p e R s m args below meth c H locs cells slots arr hC)
  | some a => exact P_aload2 hd hp k
theorem P_qstore2 {G : GX} {own nm : String} {cc : ByteArray} {nL : Nat} {ret : Option FieldType} {d kc ks : Nat} {Q : Option Value → Shp → Mem → Prop} {pc pc' : Nat} {rest : List Value} {S : Shp} {I : Mem} {x0 x1 : Option Value} {r : List (Option Value)} {o : Option Value} {x : Option Nat} (hd : decode cc pc = .ok (.astore_n 2, 1)) (hp : pc + 1 = pc') (hn : 2 < nL) (h1 : lc1 x1 = true) (k : PW G own nm cc nL ret d kc ks Q pc' (x0 :: x1 :: some (va_rf x) :: r) rest S I) : PW G own nm cc nL ret d kc ks Q pc (x0 :: x1 :: o :: r) (va_rf x :: rest) S I := by
  cases x with
  | none =>
    subst hp
    intro p e R s m args below meth c H locs cells slots arr hC
    obtain ⟨hx, hb, c1, c2, c3, c4, c5, c6, c7, c8, c9, hl, c10⟩ := hC
    obtain ⟨arr', e1, e2⟩ := lh_store (i := 2) (v := .null) hl hn (by simp) rfl (fun j w hj hw => by
      have : j = 1 := by omega
      subst this
      have e1 : x1 = some w := Option.some.inj hw
      rw [e1] at h1
      simpa [lc1] using h1)
    have kk := k p e R s m args below meth c H locs cells slots arr' ⟨hx, hb, c1, c2, c3, c4, c5, c6, c7, c8, c9, e2, c10⟩
    intro T hT X
    obtain ⟨t, a, b⟩ := kk T hT X
    refine ⟨t, ?_, b⟩
    jvm_step X.here [X.here.top, hx, hb, hd, em, va_rf]
    first | exact ⟨arr', e1, a⟩ | exact ⟨rfl, arr', e1, a⟩
  | some a => exact P_astore2 hd hp hn h1 k
theorem P_qload3 {G : GX} {own nm : String} {cc : ByteArray} {nL : Nat} {ret : Option FieldType} {d kc ks : Nat} {Q : Option Value → Shp → Mem → Prop} {pc pc' : Nat} {rest : List Value} {S : Shp} {I : Mem} {x0 x1 x2 : Option Value} {r : List (Option Value)} {x : Option Nat} (hd : decode cc pc = .ok (.aload_n 3, 1)) (hp : pc + 1 = pc') (k : PW G own nm cc nL ret d kc ks Q pc' (x0 :: x1 :: x2 :: some (va_rf x) :: r) (va_rf x :: rest) S I) : PW G own nm cc nL ret d kc ks Q pc (x0 :: x1 :: x2 :: some (va_rf x) :: r) rest S I := by
  cases x with
  | none =>
    subst hp
    intro p e R s m args below meth c H locs cells slots arr hC
    exact lv_aload_nN hC.1 hC.2.1 hd rfl (hC.2.2.2.2.2.2.2.2.2.2.2.1.2.2 3 .null rfl) (k p e R s m args below meth c H locs cells slots arr hC)
  | some a => exact P_aload3 hd hp k
theorem P_qstore3 {G : GX} {own nm : String} {cc : ByteArray} {nL : Nat} {ret : Option FieldType} {d kc ks : Nat} {Q : Option Value → Shp → Mem → Prop} {pc pc' : Nat} {rest : List Value} {S : Shp} {I : Mem} {x0 x1 x2 : Option Value} {r : List (Option Value)} {o : Option Value} {x : Option Nat} (hd : decode cc pc = .ok (.astore_n 3, 1)) (hp : pc + 1 = pc') (hn : 3 < nL) (h2 : lc1 x2 = true) (k : PW G own nm cc nL ret d kc ks Q pc' (x0 :: x1 :: x2 :: some (va_rf x) :: r) rest S I) : PW G own nm cc nL ret d kc ks Q pc (x0 :: x1 :: x2 :: o :: r) (va_rf x :: rest) S I := by
  cases x with
  | none =>
    subst hp
    intro p e R s m args below meth c H locs cells slots arr hC
    obtain ⟨hx, hb, c1, c2, c3, c4, c5, c6, c7, c8, c9, hl, c10⟩ := hC
    obtain ⟨arr', e1, e2⟩ := lh_store (i := 3) (v := .null) hl hn (by simp) rfl (fun j w hj hw => by
      have : j = 2 := by omega
      subst this
      have e1 : x2 = some w := Option.some.inj hw
      rw [e1] at h2
      simpa [lc1] using h2)
    have kk := k p e R s m args below meth c H locs cells slots arr' ⟨hx, hb, c1, c2, c3, c4, c5, c6, c7, c8, c9, e2, c10⟩
    intro T hT X
    obtain ⟨t, a, b⟩ := kk T hT X
    refine ⟨t, ?_, b⟩
    jvm_step X.here [X.here.top, hx, hb, hd, em, va_rf]
    first | exact ⟨arr', e1, a⟩ | exact ⟨rfl, arr', e1, a⟩
  | some a => exact P_astore3 hd hp hn h2 k
theorem P_qload4 {G : GX} {own nm : String} {cc : ByteArray} {nL : Nat} {ret : Option FieldType} {d kc ks : Nat} {Q : Option Value → Shp → Mem → Prop} {pc pc' : Nat} {rest : List Value} {S : Shp} {I : Mem} {x0 x1 x2 x3 : Option Value} {r : List (Option Value)} {x : Option Nat} (hd : decode cc pc = .ok (.aload 4, 2)) (hp : pc + 2 = pc') (k : PW G own nm cc nL ret d kc ks Q pc' (x0 :: x1 :: x2 :: x3 :: some (va_rf x) :: r) (va_rf x :: rest) S I) : PW G own nm cc nL ret d kc ks Q pc (x0 :: x1 :: x2 :: x3 :: some (va_rf x) :: r) rest S I := by
  cases x with
  | none =>
    subst hp
    intro p e R s m args below meth c H locs cells slots arr hC
    exact lv_aloadN hC.1 hC.2.1 hd (hC.2.2.2.2.2.2.2.2.2.2.2.1.2.2 4 .null rfl) (k p e R s m args below meth c H locs cells slots arr hC)
  | some a => exact P_aload4 hd hp k
theorem P_qstore4 {G : GX} {own nm : String} {cc : ByteArray} {nL : Nat} {ret : Option FieldType} {d kc ks : Nat} {Q : Option Value → Shp → Mem → Prop} {pc pc' : Nat} {rest : List Value} {S : Shp} {I : Mem} {x0 x1 x2 x3 : Option Value} {r : List (Option Value)} {o : Option Value} {x : Option Nat} (hd : decode cc pc = .ok (.astore 4, 2)) (hp : pc + 2 = pc') (hn : 4 < nL) (h3 : lc1 x3 = true) (k : PW G own nm cc nL ret d kc ks Q pc' (x0 :: x1 :: x2 :: x3 :: some (va_rf x) :: r) rest S I) : PW G own nm cc nL ret d kc ks Q pc (x0 :: x1 :: x2 :: x3 :: o :: r) (va_rf x :: rest) S I := by
  cases x with
  | none =>
    subst hp
    intro p e R s m args below meth c H locs cells slots arr hC
    obtain ⟨hx, hb, c1, c2, c3, c4, c5, c6, c7, c8, c9, hl, c10⟩ := hC
    obtain ⟨arr', e1, e2⟩ := lh_store (i := 4) (v := .null) hl hn (by simp) rfl (fun j w hj hw => by
      have : j = 3 := by omega
      subst this
      have e1 : x3 = some w := Option.some.inj hw
      rw [e1] at h3
      simpa [lc1] using h3)
    have kk := k p e R s m args below meth c H locs cells slots arr' ⟨hx, hb, c1, c2, c3, c4, c5, c6, c7, c8, c9, e2, c10⟩
    intro T hT X
    obtain ⟨t, a, b⟩ := kk T hT X
    refine ⟨t, ?_, b⟩
    jvm_step X.here [X.here.top, hx, hb, hd, em, va_rf]
    first | exact ⟨arr', e1, a⟩ | exact ⟨rfl, arr', e1, a⟩
  | some a => exact P_astore4 hd hp hn h3 k
theorem lp_fill {G : GX} {S : Shp} {I : Mem} {d a n : Nat} {v : Int32} {Q : Option Value → Shp → Mem → Prop} (ha : a < S.1) (ht : S.2.1 a = (9, n)) (hn : n < 2 ^ 31) : ∀ (k i : Nat) (f : Nat → Int32), i + k = n → (∀ j, j < i → f j = v) → (∀ j, n ≤ j → f j = I a j) → (∀ g : Nat → Int32, (∀ j, j < n → g j = v) → (∀ j, n ≤ j → g j = I a j) → Q none S (sR I a g)) → PW G "java/util/Arrays" "fill" cJ_Arrays_fill 4 none d 0 0 Q 5 [some (.ref a), some (.int v), some (.int (nI i)), some (.int (nI n))] [] S (sR I a f) := by
  intro k
  induction k with
  | zero =>
    intro i f hi h1 h2 hQ
    refine P_iload2 (pc' := 6) dJ_Arrays_fill_5 rfl ?_
    refine P_iload3 (pc' := 7) dJ_Arrays_fill_6 rfl ?_
    refine P_icmp_ge (tgt := 20) (pc' := 10) dJ_Arrays_fill_7 rfl rfl (fun h7 => ?_) (fun h7 => ?_)
    · refine P_vret dJ_Arrays_fill_20 ?_
      exact hQ f (fun j hj => h1 j (by omega)) h2
    · exact absurd (nI_le (by omega) (by omega)) h7
  | succ k ih =>
    intro i f hi h1 h2 hQ
    refine P_iload2 (pc' := 6) dJ_Arrays_fill_5 rfl ?_
    refine P_iload3 (pc' := 7) dJ_Arrays_fill_6 rfl ?_
    refine P_icmp_ge (tgt := 20) (pc' := 10) dJ_Arrays_fill_7 rfl rfl (fun h7 => ?_) (fun h7 => ?_)
    · exact absurd h7 (nI_ge (by omega) (by omega))
    · refine P_aload0 (pc' := 11) dJ_Arrays_fill_10 rfl ?_
      refine P_iload2 (pc' := 12) dJ_Arrays_fill_11 rfl ?_
      refine P_iload1 (pc' := 13) dJ_Arrays_fill_12 rfl ?_
      refine P_iast (pc' := 14) dJ_Arrays_fill_13 rfl ha ht (j := i) rfl (by omega) hn ?_
      refine P_iinc2 (pc' := 17) dJ_Arrays_fill_14 rfl (nI_1 i) (by decide) rfl ?_
      refine P_goto (tgt := 5) dJ_Arrays_fill_17 rfl ?_
      rw [sR_u]
      exact ih (i + 1) _ (by omega) (fun j hj => by
        by_cases q : j = i
        · rw [q]; simp [upd]
        · simp only [upd, if_neg q]; exact h1 j (by omega)) (fun j hj => by simp only [upd, if_neg (show j ≠ i by omega)]; exact h2 j hj) hQ
/-- a row filled with one number -/
def fl1 (I : Mem) (a n : Nat) (v : Int32) : Mem := sR I a (fun j => if j < n then v else I a j)
theorem c_fill {G : GX} {S : Shp} {I : Mem} {d a n : Nat} (v : Int32) (ha : a < S.1) (ht : S.2.1 a = (9, n)) (hn : n < 2 ^ 31) : PM G yJ_Arrays_fill cJ_Arrays_fill 4 none d 0 0 [.ref a, .int v] S I (Rv S (fl1 I a n v)) := by
  refine PM.of (ls := [some (.ref a), some (.int v), none, none]) (by decide) rfl (Nat.le_of_ble_eq_true rfl) rfl ?_
  show PW G "java/util/Arrays" "fill" _ _ _ _ _ _ _ _ _ _ _ _
  refine P_iconst (pc' := 1) dJ_Arrays_fill_0 rfl (v := 0) rfl ?_
  refine P_istore2 (pc' := 2) dJ_Arrays_fill_1 rfl (by decide) rfl ?_
  refine P_aload0 (pc' := 3) dJ_Arrays_fill_2 rfl ?_
  refine P_alen (pc' := 4) dJ_Arrays_fill_3 rfl ha ht (by decide) (by decide) ?_
  refine P_istore3 (pc' := 5) dJ_Arrays_fill_4 rfl (by decide) rfl ?_
  have h := lp_fill (G := G) (d := d) (v := v) (I := I) (Q := Rv S (fl1 I a n v)) ha ht hn n 0 (I a) (by omega) (fun j hj => by omega) (fun j hj => rfl) (fun g h1 h2 => ⟨rfl, rfl, by
    unfold fl1
    congr 1
    funext j
    by_cases q : j < n
    · rw [if_pos q, h1 j q]
    · rw [if_neg q, h2 j (by omega)]⟩)
  rw [sR_self] at h
  exact h
/-- follow(text): another law, and nothing known; or the same -/
def m0_follow (S : Shp) (I : Mem) (x : Option Nat) : Shp × Mem := if x = S.2.2 27 0 then (S, I) else ((S.1, S.2.1, p2 S.2.2 27 0 x), fl1 I 28 1890 0)
theorem c_X0_follow {G : GX} {S : Shp} {I : Mem} {d : Nat} (x : Option Nat) (hsh : SHP S) (hx : ∀ a, x = some a → a < S.1) (hy : ∀ a, S.2.2 27 0 = some a → a < S.1) (hd : 1 ≤ d) : PM G yX0_follow cX0_follow 2 none d 0 0 [.ref 27, va_rf x] S I (fun r S' I' => r = none ∧ (m0_follow S I x).1 = S' ∧ (m0_follow S I x).2 = I') := by
  refine PM.of (ls := [some (.ref 27), some (va_rf x)]) (by decide) (by cases x <;> rfl) (Nat.le_of_ble_eq_true rfl) rfl ?_
  show PW G RX0 "follow" _ _ _ _ _ _ _ _ _ _ _ _
  refine P_qload1 (pc' := 1) dX0_follow_0 rfl ?_
  refine P_aload0 (pc' := 2) dX0_follow_1 rfl ?_
  refine P_getv (pc' := 5) (v := va_rf (S.2.2 27 0)) dX0_follow_2 rfl fl_X0_9 (l_27 hsh) (t_27 hsh) (by cases h : S.2.2 27 0 <;> simp [fldO, rfF, rfL, em, va_rf, h]) ?_
  refine P_acmp (tgt := 21) (pc' := 8) dX0_follow_5 rfl rfl hx hy (fun h5 => ?_) (fun h5 => ?_)
  · refine P_vret dX0_follow_21 ?_
    unfold m0_follow
    rw [if_pos h5]
    exact ⟨rfl, rfl, rfl⟩
  · refine P_aload0 (pc' := 9) dX0_follow_8 rfl ?_
    refine P_qload1 (pc' := 10) dX0_follow_9 rfl ?_
    have hput : ∀ (Q : Option Value → Shp → Mem → Prop), PW G RX0 "follow" cX0_follow 2 none d 0 0 Q 13 [some (.ref 27), some (va_rf x)] [] (S.1, S.2.1, p2 S.2.2 27 0 x) I → PW G RX0 "follow" cX0_follow 2 none d 0 0 Q 10 [some (.ref 27), some (va_rf x)] [va_rf x, .ref 27] S I := by
      intro Q k
      cases x with
      | none => exact P_putn (pc' := 13) dX0_follow_10 rfl fl_X0_9 (Or.inl ⟨_, rfl⟩) rfl (l_27 hsh) (t_27 hsh) k
      | some a => exact P_putr (pc' := 13) dX0_follow_10 rfl fl_X0_9 (Or.inl ⟨_, rfl⟩) rfl (l_27 hsh) (t_27 hsh) k
    refine hput _ ?_
    have hsh2 : SHP (S.1, S.2.1, p2 S.2.2 27 0 x) := ⟨hsh.1, hsh.2.1, hsh.2.2.1, fun i j h1 h2 h3 => by
      show p2 S.2.2 27 0 x i j = _
      unfold p2
      rw [if_neg (by omega)]
      exact hsh.2.2.2 i j h1 h2 h3⟩
    refine P_aload0 (pc' := 14) dX0_follow_13 rfl ?_
    refine P_getr (pc' := 17) dX0_follow_14 rfl fl_X0_15 rfl (l_27 hsh2) (t_27 hsh2) (q_27_1 hsh2) ?_
    refine P_iconst (pc' := 18) dX0_follow_17 rfl (v := 0) rfl ?_
    refine P_callS2 (pc' := 21) dX0_follow_18 rfl lk_X0_19 (c_fill (d := 0) 0 (l_28 hsh2) (t_28 hsh2) (by decide)) (by omega) (Nat.le_of_ble_eq_true rfl) (fun r S' I' hq => ?_)
    obtain ⟨rfl, rfl, rfl⟩ := hq
    refine P_vret dX0_follow_21 ?_
    unfold m0_follow
    rw [if_neg h5]
    exact ⟨rfl, rfl, rfl⟩
/-- what alms gives without a text -/
def alD (c g s : Int32) : Int32 := c * g / 9 + s / 5
/-- what the text at t gives a plain beggar, from the stack as it is -/
def alT (len sz : Nat) (steps : Nat → Int32) (c g s : Int32) : Int32 := hl ((gvG c g s sz steps len 0 (0, fun _ => 0)).2 0) 0 99
/-- a law's answer doesn't hang on what its stack held -/
def Wf (len sz : Nat) (steps : Nat → Int32) : Prop := ∀ (f s th : Int32) (q : Nat → Int32), (gvG f s th sz steps len 0 (0, q)).2 0 = (gvG f s th sz steps len 0 (0, fun _ => 0)).2 0
/-- the scratch of the class: what is known of alms, the stacks of the laws -/
def Scr (x : Nat) : Prop := x = 28 ∨ (77 ≤ x ∧ x % 3 = 1)
def plc (c g s : Nat) : Nat := (s * 9 + c - 1) * 10 + g
/-- the alms object stands for al -/
def AlOk (S : Shp) (I : Mem) (al : Int32 → Int32 → Int32 → Int32) : Prop :=
  (S.2.2 27 0 = none ∧ al = alD) ∨ ∃ t len sz steps, S.2.2 27 0 = some t ∧ TxOk S I t len sz steps ∧ Wf len sz steps ∧ al = alT len sz steps ∧ ∀ c g s, 1 ≤ c → c ≤ 9 → g ≤ 9 → s ≤ 20 → I 28 (plc c g s) = 0 ∨ I 28 (plc c g s) = 1 + al (nI c) (nI g) (nI s)

