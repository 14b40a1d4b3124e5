def FLk (own : String) (idx c k : Nat) (fin : Bool) (ty : FieldType) : Prop :=
  ∃ (C : String) (T : u_T) (N : Nat) (ty0 : Nat → FieldType), vwCl[c]? = some (C, T, N) ∧ N = nFl c ∧ k < N ∧ c < 9 ∧ Cond.fieldLink own idx (T k).1 (T k).2.1 (T k).2.2.1 ∈ lw_tbl ∧ (∀ w ∈ u_ws C T N, w ∈ lw_g) ∧ (T k).2.2.2 = fin ∧ parseFieldDescriptor (T k).2.2.1 = some ty ∧ (∀ k, k < N → parseFieldDescriptor (T k).2.2.1 = some (ty0 k)) ∧ (∀ a, a < N → ∀ b, b < N → a ≠ b → (T a).2.1 ≠ (T b).2.1) ∧ (T k).1 = C
def u2 (I : Mem) (a k : Nat) (v : Int32) : Mem := fun x y => if x = a ∧ y = k then v else I x y
def p2 (F : Nat → Nat → Option Nat) (a k : Nat) (v : Option Nat) : Nat → Nat → Option Nat := fun x y => if x = a ∧ y = k then v else F x y
theorem u2_s (I : Mem) (a k : Nat) (v : Int32) : u2 I a k v a k = v := by simp [u2]
theorem u2_a {I : Mem} {a k x y : Nat} {v : Int32} (h : x ≠ a) : u2 I a k v x y = I x y := by simp [u2, h]
theorem u2_k {I : Mem} {a k x y : Nat} {v : Int32} (h : y ≠ k) : u2 I a k v x y = I x y := by simp [u2, h]
theorem u2_row {I : Mem} {a k x : Nat} {v : Int32} (h : x ≠ a) : u2 I a k v x = I x := by funext y; exact u2_a h
theorem u2_upd (I : Mem) (a k : Nat) (v : Int32) : u2 I a k v a = upd (I a) k v := by funext y; simp [u2, upd]
theorem p2_row {F : Nat → Nat → Option Nat} {a k x : Nat} {v : Option Nat} (h : x ≠ a) : p2 F a k v x = F x := by funext y; simp [p2, h]
def nS (S : Shp) (q : Nat × Nat) : Shp := (S.1 + 1, fun i => if i = S.1 then q else S.2.1 i, fun i j => if i = S.1 then none else S.2.2 i j)
def nM (S : Shp) (I : Mem) : Mem := fun i j => if i = S.1 then 0 else I i j
theorem P_getv {G : GX} {own nm : String} {cc : ByteArray} {nL : Nat} {ret : Option FieldType} {d kc ks : Nat} {Q : Option Value → Shp → Mem → Prop} {pc pc' : Nat} {ls : List (Option Value)} {rest : List Value} {S : Shp} {I : Mem} {idx c k a n : Nat} {fin : Bool} {ty : FieldType} {v : Value} (hd : decode cc pc = .ok (.getfield idx, 3)) (hp : pc + 3 = pc') (hf : FLk own idx c k fin ty) (ha : a < S.1) (ht : S.2.1 a = (c, n)) (hv : fldO G c (S.2.2 a) (I a) k = em G v) (kk : PW G own nm cc nL ret d kc ks Q pc' ls (v :: rest) S I) : PW G own nm cc nL ret d kc ks Q pc ls (.ref a :: rest) S I := by
  subst hp
  obtain ⟨C, T, N, ty0, f1, f2, f3, f4, f5, f6, f7, f8, f9, f10, f11⟩ := hf
  intro p e R s m args below meth c_1 H locs cells slots arr hC
  obtain ⟨hx, hb, hr, hml, hown, hlk, hnm, hts, hO, hS, hP, hl, hR⟩ := id hC
  have he : (wsO G S I)[a]? = some (gB G + a, .inr (c, (List.range (nFl c)).map (fldO G c (S.2.2 a) (I a)))) := by rw [wsO_at ha, ht, cellO_obj f4]
  have hk := kk p e R s m args below meth c_1 H locs cells slots arr hC
  show W _ _ _ _ _ _ _ _ _ _ _ _ _ _ _ (F0 m pc arr (.ref (gA G a) :: rest.map (em G)))
  rw [gA_lt ha hP.2.1]
  refine va_get (D := gD G) (ci := c) (v := em G v) (C := C) (T := T) (N := N) (ref := (T k).1) hx hb hts f6 hown hO.1 hP.2.2 a he f1 k f3 (hts _ (lw_in f5 rfl)) (fun _ h => h) ?_ hd hk
  rw [List.getElem?_map, List.getElem?_range (by omega)]
  rw [← hv]
  rfl
theorem P_geti {G : GX} {own nm : String} {cc : ByteArray} {nL : Nat} {ret : Option FieldType} {d kc ks : Nat} {Q : Option Value → Shp → Mem → Prop} {pc pc' : Nat} {ls : List (Option Value)} {rest : List Value} {S : Shp} {I : Mem} {idx c k a n : Nat} {fin : Bool} {ty : FieldType} (hd : decode cc pc = .ok (.getfield idx, 3)) (hp : pc + 3 = pc') (hf : FLk own idx c k fin ty) (hq : rfF c k = false) (ha : a < S.1) (ht : S.2.1 a = (c, n)) (kk : PW G own nm cc nL ret d kc ks Q pc' ls (.int (I a k) :: rest) S I) : PW G own nm cc nL ret d kc ks Q pc ls (.ref a :: rest) S I :=
  P_getv hd hp hf ha ht (by simp [fldO, hq, em]) kk
theorem P_getr {G : GX} {own nm : String} {cc : ByteArray} {nL : Nat} {ret : Option FieldType} {d kc ks : Nat} {Q : Option Value → Shp → Mem → Prop} {pc pc' : Nat} {ls : List (Option Value)} {rest : List Value} {S : Shp} {I : Mem} {idx c k a n b : Nat} {fin : Bool} {ty : FieldType} (hd : decode cc pc = .ok (.getfield idx, 3)) (hp : pc + 3 = pc') (hf : FLk own idx c k fin ty) (hq : rfF c k = true) (ha : a < S.1) (ht : S.2.1 a = (c, n)) (hr : S.2.2 a k = some b) (kk : PW G own nm cc nL ret d kc ks Q pc' ls (.ref b :: rest) S I) : PW G own nm cc nL ret d kc ks Q pc ls (.ref a :: rest) S I :=
  P_getv hd hp hf ha ht (by simp [fldO, hq, em, hr, va_rf]) kk
theorem P_getn {G : GX} {own nm : String} {cc : ByteArray} {nL : Nat} {ret : Option FieldType} {d kc ks : Nat} {Q : Option Value → Shp → Mem → Prop} {pc pc' : Nat} {ls : List (Option Value)} {rest : List Value} {S : Shp} {I : Mem} {idx c k a n : Nat} {fin : Bool} {ty : FieldType} (hd : decode cc pc = .ok (.getfield idx, 3)) (hp : pc + 3 = pc') (hf : FLk own idx c k fin ty) (hq : rfF c k = true) (ha : a < S.1) (ht : S.2.1 a = (c, n)) (hr : S.2.2 a k = none) (kk : PW G own nm cc nL ret d kc ks Q pc' ls (.null :: rest) S I) : PW G own nm cc nL ret d kc ks Q pc ls (.ref a :: rest) S I :=
  P_getv hd hp hf ha ht (by simp [fldO, hq, em, hr, va_rf]) kk
theorem wsO_fld {G : GX} {S S' : Shp} {I I' : Mem} {a c k n : Nat} {w : Value} (hc : c < 9) (ha : a < S.1) (ht : S.2.1 a = (c, n)) (hk : k < nFl c) (h1 : S'.1 = S.1) (h2 : S'.2.1 = S.2.1) (ho : ∀ i, i ≠ a → S'.2.2 i = S.2.2 i ∧ I' i = I i) (hfl : ∀ j, fldO G c (S'.2.2 a) (I' a) j = if j = k then w else fldO G c (S.2.2 a) (I a) j) :
    (wsO G S I).set a (gB G + a, .inr (c, ((List.range (nFl c)).map (fldO G c (S.2.2 a) (I a))).set k w)) = wsO G S' I' := by
  rw [← wsO_set (S := S) (S' := S') (I := I) (I' := I') ha h1 (fun i hi hia => by rw [h2, (ho i hia).1, (ho i hia).2])]
  rw [h2, ht, cellO_obj hc]
  congr 4
  apply List.ext_getElem?
  intro j
  by_cases hj : j < nFl c
  · rw [List.getElem?_map, List.getElem?_range hj]
    by_cases hjk : j = k
    · subst hjk
      rw [List.getElem?_set_self (by simpa using hj)]
      simp [hfl]
    · rw [List.getElem?_set_ne (Ne.symm hjk), List.getElem?_map, List.getElem?_range hj]
      simp [hfl, hjk]
  · rw [List.getElem?_eq_none (by simp; omega), List.getElem?_eq_none (by simp; omega)]
theorem P_putv {G : GX} {own nm : String} {cc : ByteArray} {nL : Nat} {ret : Option FieldType} {d kc ks : Nat} {Q : Option Value → Shp → Mem → Prop} {pc pc' : Nat} {ls : List (Option Value)} {rest : List Value} {S : Shp} {I : Mem} {idx c k a n : Nat} {ty : FieldType} {v : Value} {S' : Shp} {I' : Mem} (hd : decode cc pc = .ok (.putfield idx, 3)) (hp : pc + 3 = pc') (hf : FLk own idx c k false ty)  (ha : a < S.1) (ht : S.2.1 a = (c, n)) (hn : narrow ty (em G v) = em G v) (hfit : fits ty (em G v) = true) (h1 : S'.1 = S.1) (h2 : S'.2.1 = S.2.1) (ho : ∀ i, i ≠ a → S'.2.2 i = S.2.2 i ∧ I' i = I i) (hfl : ∀ j, fldO G c (S'.2.2 a) (I' a) j = if j = k then em G v else fldO G c (S.2.2 a) (I a) j) (kk : PW G own nm cc nL ret d kc ks Q pc' ls rest S' I') : PW G own nm cc nL ret d kc ks Q pc ls (v :: .ref a :: rest) S I := by
  subst hp
  obtain ⟨C, T, N, ty0, f1, f2, f3, f4, f5, f6, f7, f8, f9, f10, f11⟩ := hf
  intro p e R s m args below meth c_1 H locs cells slots arr hC
  obtain ⟨hx, hb, hr, hml, hown, hlk, hnm, hts, hO, hS, hP, hl, hR⟩ := id hC
  have he : (wsO G S I)[a]? = some (gB G + a, .inr (c, (List.range (nFl c)).map (fldO G c (S.2.2 a) (I a)))) := by rw [wsO_at ha, ht, cellO_obj f4]
  show W _ _ _ _ _ _ _ _ _ _ _ _ _ _ _ (F0 m pc arr (em G v :: .ref (gA G a) :: rest.map (em G)))
  rw [gA_lt ha hP.2.1]
  have hap := va_apart (own := own) hts f6 ty0 f9 f10 hO.1 f1
  obtain ⟨r, g1, cell, q1, q2, q3, q4⟩ := hP.2.2 a _ he
  have hr' : r = (C, T, N) := Option.some.inj (g1.symm.trans f1)
  subst hr'
  obtain ⟨hSl, hfc, kC, hkC, hkind⟩ := hO.1.1 c _ f1
  obtain ⟨cf, kf, fi, f, hi, hsl⟩ := hSl k f3
  have hlay := hts _ (f6 _ (u_in_lay f3))
  unfold u_lay at hlay
  have hst := (u_facts hfc hkC (u_lays hts f6 f3) hi).1
  rw [if_neg (by rw [f7]; decide)] at hlay
  have h6 := u_store hfc hkC hkind hlay hi f8 hn hfit
  refine W.putK hx hb (f := f) ⟨hown, hts _ (lw_in f5 rfl), ⟨_, _, _, hi⟩, hst⟩ (by rw [q2]; exact h6) q1 q3 (by rw [hsl]; exact k2_hasslot (q4 k f3)) rfl rfl hd fun H1 e1 e2 e3 => ?_
  rw [hsl] at e1 ⊢
  have hP1 := hP.2.2.set (wsO_D G S I) he (e := .inr (c, ((List.range (nFl c)).map (fldO G c (S.2.2 a) (I a))).set k (em G v))) ⟨_, f1, t_OB.to (V := updV (vp_V ((List.range (nFl c)).map (fldO G c (S.2.2 a) (I a)))) k (em G v)) ⟨_, e1, q2, q3, t_set q4 hap f3 (em G v)⟩ (fun j _ => vp_updV_set (by simp; omega) (em G v) j)⟩ e3
  rw [wsO_fld f4 ha ht (by omega) h1 h2 ho hfl] at hP1
  exact kk p e R s m args below meth c_1 H1 _ cells slots arr ⟨hx, hb, hr, hml, hown, hlk, hnm, hts, hO, hS.put e2 e3 (Nat.le_add_right _ _), ⟨by rw [e2, h1]; exact hP.1, by rw [h1]; exact hP.2.1, hP1⟩, hl, hR⟩
theorem P_putvF {G : GX} {own nm : String} {cc : ByteArray} {nL : Nat} {ret : Option FieldType} {d kc ks : Nat} {Q : Option Value → Shp → Mem → Prop} {pc pc' : Nat} {ls : List (Option Value)} {rest : List Value} {S : Shp} {I : Mem} {idx c k a n : Nat} {ty : FieldType} {v : Value} {S' : Shp} {I' : Mem} (hd : decode cc pc = .ok (.putfield idx, 3)) (hp : pc + 3 = pc') (hf : FLk own idx c k true ty) (hin : nm = "<init>") (hcl : ∀ C T N, vwCl[c]? = some (C, T, N) → C = own) (ha : a < S.1) (ht : S.2.1 a = (c, n)) (hn : narrow ty (em G v) = em G v) (hfit : fits ty (em G v) = true) (h1 : S'.1 = S.1) (h2 : S'.2.1 = S.2.1) (ho : ∀ i, i ≠ a → S'.2.2 i = S.2.2 i ∧ I' i = I i) (hfl : ∀ j, fldO G c (S'.2.2 a) (I' a) j = if j = k then em G v else fldO G c (S.2.2 a) (I a) j) (kk : PW G own nm cc nL ret d kc ks Q pc' ls rest S' I') : PW G own nm cc nL ret d kc ks Q pc ls (v :: .ref a :: rest) S I := by
  subst hp
  obtain ⟨C, T, N, ty0, f1, f2, f3, f4, f5, f6, f7, f8, f9, f10, f11⟩ := hf
  intro p e R s m args below meth c_1 H locs cells slots arr hC
  obtain ⟨hx, hb, hr, hml, hown, hlk, hnm, hts, hO, hS, hP, hl, hR⟩ := id hC
  have he : (wsO G S I)[a]? = some (gB G + a, .inr (c, (List.range (nFl c)).map (fldO G c (S.2.2 a) (I a)))) := by rw [wsO_at ha, ht, cellO_obj f4]
  show W _ _ _ _ _ _ _ _ _ _ _ _ _ _ _ (F0 m pc arr (em G v :: .ref (gA G a) :: rest.map (em G)))
  rw [gA_lt ha hP.2.1]
  have hap := va_apart (own := own) hts f6 ty0 f9 f10 hO.1 f1
  obtain ⟨r, g1, cell, q1, q2, q3, q4⟩ := hP.2.2 a _ he
  have hr' : r = (C, T, N) := Option.some.inj (g1.symm.trans f1)
  subst hr'
  obtain ⟨hSl, hfc, kC, hkC, hkind⟩ := hO.1.1 c _ f1
  obtain ⟨cf, kf, fi, f, hi, hsl⟩ := hSl k f3
  have hlay := hts _ (f6 _ (u_in_lay f3))
  unfold u_lay at hlay
  have hst := (u_facts hfc hkC (u_lays hts f6 f3) hi).1
  rw [if_pos f7] at hlay
  have hcf : m.cls = cf := by
    obtain ⟨_, _, c', _, _, _, -, -, hf', -, -, -, hown2, -⟩ := Cond.laysFinal_spec hlay
    have e1 : c' = cf := by have := hi.symm.trans hf'; simp at this; exact this.1.symm
    rw [f11, hcl C T N f1] at hown2
    rw [← e1]; exact Option.some.inj (hown.symm.trans hown2)
  have h6 := u_fits hfc hkC hkind (Or.inr hlay) hi f8 hn hfit
  refine W.putFinK hx hb hown (hts _ (lw_in f5 rfl)) hi hst hcf (by rw [hnm]; exact hin) (by rw [q2]; exact h6) q1 q3 (by rw [hsl]; exact k2_hasslot (q4 k f3)) rfl rfl hd fun H1 e1 e2 e3 => ?_
  rw [hsl] at e1 ⊢
  have hP1 := hP.2.2.set (wsO_D G S I) he (e := .inr (c, ((List.range (nFl c)).map (fldO G c (S.2.2 a) (I a))).set k (em G v))) ⟨_, f1, t_OB.to (V := updV (vp_V ((List.range (nFl c)).map (fldO G c (S.2.2 a) (I a)))) k (em G v)) ⟨_, e1, q2, q3, t_set q4 hap f3 (em G v)⟩ (fun j _ => vp_updV_set (by simp; omega) (em G v) j)⟩ e3
  rw [wsO_fld f4 ha ht (by omega) h1 h2 ho hfl] at hP1
  exact kk p e R s m args below meth c_1 H1 _ cells slots arr ⟨hx, hb, hr, hml, hown, hlk, hnm, hts, hO, hS.put e2 e3 (Nat.le_add_right _ _), ⟨by rw [e2, h1]; exact hP.1, by rw [h1]; exact hP.2.1, hP1⟩, hl, hR⟩
theorem P_puti {G : GX} {own nm : String} {cc : ByteArray} {nL : Nat} {ret : Option FieldType} {d kc ks : Nat} {Q : Option Value → Shp → Mem → Prop} {pc pc' : Nat} {ls : List (Option Value)} {rest : List Value} {S : Shp} {I : Mem} {idx c k a n : Nat} {v : Int32} (hd : decode cc pc = .ok (.putfield idx, 3)) (hp : pc + 3 = pc') (hf : FLk own idx c k false .int) (hq : rfF c k = false) (ha : a < S.1) (ht : S.2.1 a = (c, n)) (kk : PW G own nm cc nL ret d kc ks Q pc' ls rest S (u2 I a k v)) : PW G own nm cc nL ret d kc ks Q pc ls (.int v :: .ref a :: rest) S I :=
  P_putv (v := .int v) (S' := S) (I' := u2 I a k v) hd hp hf ha ht rfl rfl rfl rfl (fun i hi => ⟨rfl, u2_row hi⟩) (fun j => by
    by_cases h : j = k
    · subst h; simp [fldO, hq, em, u2]
    · simp [fldO, u2, h]) kk
theorem P_putiF {G : GX} {own nm : String} {cc : ByteArray} {nL : Nat} {ret : Option FieldType} {d kc ks : Nat} {Q : Option Value → Shp → Mem → Prop} {pc pc' : Nat} {ls : List (Option Value)} {rest : List Value} {S : Shp} {I : Mem} {idx c k a n : Nat} {v : Int32} (hd : decode cc pc = .ok (.putfield idx, 3)) (hp : pc + 3 = pc') (hf : FLk own idx c k true .int) (hin : nm = "<init>") (hcl : ∀ C T N, vwCl[c]? = some (C, T, N) → C = own) (hq : rfF c k = false) (ha : a < S.1) (ht : S.2.1 a = (c, n)) (kk : PW G own nm cc nL ret d kc ks Q pc' ls rest S (u2 I a k v)) : PW G own nm cc nL ret d kc ks Q pc ls (.int v :: .ref a :: rest) S I :=
  P_putvF (v := .int v) (S' := S) (I' := u2 I a k v) hd hp hf hin hcl ha ht rfl rfl rfl rfl (fun i hi => ⟨rfl, u2_row hi⟩) (fun j => by
    by_cases h : j = k
    · subst h; simp [fldO, hq, em, u2]
    · simp [fldO, u2, h]) kk
theorem P_putz {G : GX} {own nm : String} {cc : ByteArray} {nL : Nat} {ret : Option FieldType} {d kc ks : Nat} {Q : Option Value → Shp → Mem → Prop} {pc pc' : Nat} {ls : List (Option Value)} {rest : List Value} {S : Shp} {I : Mem} {idx c k a n : Nat} {v : Int32} (hd : decode cc pc = .ok (.putfield idx, 3)) (hp : pc + 3 = pc') (hf : FLk own idx c k false .boolean) (hq : rfF c k = false) (ha : a < S.1) (ht : S.2.1 a = (c, n)) (hv : v = 0 ∨ v = 1) (kk : PW G own nm cc nL ret d kc ks Q pc' ls rest S (u2 I a k v)) : PW G own nm cc nL ret d kc ks Q pc ls (.int v :: .ref a :: rest) S I :=
  P_putv (v := .int v) (S' := S) (I' := u2 I a k v) hd hp hf ha ht (by rcases hv with rfl | rfl <;> rfl) (by rcases hv with rfl | rfl <;> rfl) rfl rfl (fun i hi => ⟨rfl, u2_row hi⟩) (fun j => by
    by_cases h : j = k
    · subst h; simp [fldO, hq, em, u2]
    · simp [fldO, u2, h]) kk
theorem P_putr {G : GX} {own nm : String} {cc : ByteArray} {nL : Nat} {ret : Option FieldType} {d kc ks : Nat} {Q : Option Value → Shp → Mem → Prop} {pc pc' : Nat} {ls : List (Option Value)} {rest : List Value} {S : Shp} {I : Mem} {idx c k a n : Nat} {b : Nat} {ty : FieldType} (hd : decode cc pc = .ok (.putfield idx, 3)) (hp : pc + 3 = pc') (hf : FLk own idx c k false ty)  (hty : (∃ n, ty = .object n) ∨ ∃ t, ty = .array t) (hq : rfF c k = true) (ha : a < S.1) (ht : S.2.1 a = (c, n)) (kk : PW G own nm cc nL ret d kc ks Q pc' ls rest (S.1, S.2.1, p2 S.2.2 a k (some b)) I) : PW G own nm cc nL ret d kc ks Q pc ls (.ref b :: .ref a :: rest) S I :=
  P_putv (v := .ref b) (S' := (S.1, S.2.1, p2 S.2.2 a k (some b))) (I' := I) hd hp hf ha ht (by rcases hty with ⟨n, rfl⟩ | ⟨n, rfl⟩ <;> rfl) (by rcases hty with ⟨n, rfl⟩ | ⟨n, rfl⟩ <;> rfl) rfl rfl (fun i hi => ⟨p2_row hi, rfl⟩) (fun j => by
    by_cases h : j = k
    · subst h; simp [fldO, hq, em, p2, va_rf]
    · simp [fldO, p2, h]) kk
theorem P_putrF {G : GX} {own nm : String} {cc : ByteArray} {nL : Nat} {ret : Option FieldType} {d kc ks : Nat} {Q : Option Value → Shp → Mem → Prop} {pc pc' : Nat} {ls : List (Option Value)} {rest : List Value} {S : Shp} {I : Mem} {idx c k a n : Nat} {b : Nat} {ty : FieldType} (hd : decode cc pc = .ok (.putfield idx, 3)) (hp : pc + 3 = pc') (hf : FLk own idx c k true ty) (hin : nm = "<init>") (hcl : ∀ C T N, vwCl[c]? = some (C, T, N) → C = own) (hty : (∃ n, ty = .object n) ∨ ∃ t, ty = .array t) (hq : rfF c k = true) (ha : a < S.1) (ht : S.2.1 a = (c, n)) (kk : PW G own nm cc nL ret d kc ks Q pc' ls rest (S.1, S.2.1, p2 S.2.2 a k (some b)) I) : PW G own nm cc nL ret d kc ks Q pc ls (.ref b :: .ref a :: rest) S I :=
  P_putvF (v := .ref b) (S' := (S.1, S.2.1, p2 S.2.2 a k (some b))) (I' := I) hd hp hf hin hcl ha ht (by rcases hty with ⟨n, rfl⟩ | ⟨n, rfl⟩ <;> rfl) (by rcases hty with ⟨n, rfl⟩ | ⟨n, rfl⟩ <;> rfl) rfl rfl (fun i hi => ⟨p2_row hi, rfl⟩) (fun j => by
    by_cases h : j = k
    · subst h; simp [fldO, hq, em, p2, va_rf]
    · simp [fldO, p2, h]) kk
theorem P_putn {G : GX} {own nm : String} {cc : ByteArray} {nL : Nat} {ret : Option FieldType} {d kc ks : Nat} {Q : Option Value → Shp → Mem → Prop} {pc pc' : Nat} {ls : List (Option Value)} {rest : List Value} {S : Shp} {I : Mem} {idx c k a n : Nat}  {ty : FieldType} (hd : decode cc pc = .ok (.putfield idx, 3)) (hp : pc + 3 = pc') (hf : FLk own idx c k false ty)  (hty : (∃ n, ty = .object n) ∨ ∃ t, ty = .array t) (hq : rfF c k = true) (ha : a < S.1) (ht : S.2.1 a = (c, n)) (kk : PW G own nm cc nL ret d kc ks Q pc' ls rest (S.1, S.2.1, p2 S.2.2 a k (none)) I) : PW G own nm cc nL ret d kc ks Q pc ls (.null :: .ref a :: rest) S I :=
  P_putv (v := .null) (S' := (S.1, S.2.1, p2 S.2.2 a k (none))) (I' := I) hd hp hf ha ht (by rcases hty with ⟨n, rfl⟩ | ⟨n, rfl⟩ <;> rfl) (by rcases hty with ⟨n, rfl⟩ | ⟨n, rfl⟩ <;> rfl) rfl rfl (fun i hi => ⟨p2_row hi, rfl⟩) (fun j => by
    by_cases h : j = k
    · subst h; simp [fldO, hq, em, p2, va_rf]
    · simp [fldO, p2, h]) kk
theorem wsO_arr {G : GX} {S : Shp} {I : Mem} {a c n j : Nat} {v : Int32} (h1 : 9 ≤ c) (h2 : c < 13) (ha : a < S.1) (ht : S.2.1 a = (c, n)) : (wsO G S I).set a (gB G + a, .inl (gCy G c, n, .inl (upd (I a) j v))) = wsO G S (u2 I a j v) := by
  rw [← wsO_set (S := S) (S' := S) (I := I) (I' := u2 I a j v) ha rfl (fun i hi hia => by rw [u2_row hia])]
  rw [ht, cellO_int h1 h2, u2_upd]
theorem wsO_arow {G : GX} {S : Shp} {I : Mem} {a c n : Nat} {f : Nat → Int32} (h1 : 9 ≤ c) (h2 : c < 13) (ha : a < S.1) (ht : S.2.1 a = (c, n)) : (wsO G S I).set a (gB G + a, .inl (gCy G c, n, .inl f)) = wsO G S (fun x => if x = a then f else I x) := by
  rw [← wsO_set (S := S) (S' := S) (I := I) (I' := fun x => if x = a then f else I x) ha rfl (fun i hi hia => by rw [if_neg hia])]
  rw [ht, cellO_int h1 h2, if_pos rfl]
theorem wsO_aref {G : GX} {S : Shp} {I : Mem} {a c n j b : Nat} (h1 : 13 ≤ c) (ha : a < S.1) (ht : S.2.1 a = (c, n)) : (wsO G S I).set a (gB G + a, .inl (gCy G c, n, .inr (.inr (.inr (.inr (va_up (fun j => (S.2.2 a j).map (gA G)) j (some (gA G b)))))))) = wsO G (S.1, S.2.1, p2 S.2.2 a j (some b)) I := by
  rw [← wsO_set (S := S) (S' := (S.1, S.2.1, p2 S.2.2 a j (some b))) (I := I) (I' := I) ha rfl (fun i hi hia => by show cellO G (S.2.1 i) (p2 S.2.2 a j (some b) i) (I i) = _; rw [p2_row hia])]
  show _ = (wsO G S I).set a (gB G + a, cellO G (S.2.1 a) (p2 S.2.2 a j (some b) a) (I a))
  rw [ht, cellO_ref h1]
  congr 9
  funext z
  by_cases h : z = j
  · subst h; simp [va_up, p2]
  · simp [va_up, p2, h]
theorem P_iald {G : GX} {own nm : String} {cc : ByteArray} {nL : Nat} {ret : Option FieldType} {d kc ks : Nat} {Q : Option Value → Shp → Mem → Prop} {pc pc' : Nat} {ls : List (Option Value)} {rest : List Value} {S : Shp} {I : Mem} {a n j : Nat} {i : Int32} (hd : decode cc pc = .ok (.iaload, 1)) (hp : pc + 1 = pc') (ha : a < S.1) (ht : S.2.1 a = (9, n)) (hj : i = nI j) (hlt : j < n) (hn : n < 2 ^ 31) (kk : PW G own nm cc nL ret d kc ks Q pc' ls (.int (I a j) :: rest) S I) : PW G own nm cc nL ret d kc ks Q pc ls (.int i :: .ref a :: rest) S I := by
  subst hp
  subst hj
  intro p e R s m args below meth c H locs cells slots arr hC
  obtain ⟨hx, hb, hr, hml, hown, hlk, hnm, hts, hO, hS, hP, hl, hR⟩ := id hC
  have he : (wsO G S I)[a]? = some (gB G + a, .inl (gCy G 9, n, .inl (I a))) := by rw [wsO_at ha, ht, cellO_int (by decide) (by decide)]
  show W _ _ _ _ _ _ _ _ _ _ _ _ _ _ _ (F0 m pc arr (.int (nI j) :: .ref (gA G a) :: rest.map (em G)))
  rw [gA_lt ha hP.2.1]
  refine va_iald hx hb hO.1 hP.2.2 a 0 he rfl (vp_in_nI hlt hn) hd ?_
  rw [nI_clamp (by omega)]
  exact kk p e R s m args below meth c H locs cells slots arr hC
theorem P_bald {G : GX} {own nm : String} {cc : ByteArray} {nL : Nat} {ret : Option FieldType} {d kc ks : Nat} {Q : Option Value → Shp → Mem → Prop} {pc pc' : Nat} {ls : List (Option Value)} {rest : List Value} {S : Shp} {I : Mem} {a n j : Nat} {i : Int32} (hd : decode cc pc = .ok (.baload, 1)) (hp : pc + 1 = pc') (ha : a < S.1) (ht : S.2.1 a = (10, n)) (hj : i = nI j) (hlt : j < n) (hn : n < 2 ^ 31) (kk : PW G own nm cc nL ret d kc ks Q pc' ls (.int (I a j) :: rest) S I) : PW G own nm cc nL ret d kc ks Q pc ls (.int i :: .ref a :: rest) S I := by
  subst hp
  subst hj
  intro p e R s m args below meth c H locs cells slots arr hC
  obtain ⟨hx, hb, hr, hml, hown, hlk, hnm, hts, hO, hS, hP, hl, hR⟩ := id hC
  have he : (wsO G S I)[a]? = some (gB G + a, .inl (gCy G 10, n, .inl (I a))) := by rw [wsO_at ha, ht, cellO_int (by decide) (by decide)]
  show W _ _ _ _ _ _ _ _ _ _ _ _ _ _ _ (F0 m pc arr (.int (nI j) :: .ref (gA G a) :: rest.map (em G)))
  rw [gA_lt ha hP.2.1]
  refine va_bald hx hb hO.1 hP.2.2 a 1 he rfl (vp_in_nI hlt hn) hd ?_
  rw [nI_clamp (by omega)]
  exact kk p e R s m args below meth c H locs cells slots arr hC
theorem P_zald {G : GX} {own nm : String} {cc : ByteArray} {nL : Nat} {ret : Option FieldType} {d kc ks : Nat} {Q : Option Value → Shp → Mem → Prop} {pc pc' : Nat} {ls : List (Option Value)} {rest : List Value} {S : Shp} {I : Mem} {a n j : Nat} {i : Int32} (hd : decode cc pc = .ok (.baload, 1)) (hp : pc + 1 = pc') (ha : a < S.1) (ht : S.2.1 a = (11, n)) (hj : i = nI j) (hlt : j < n) (hn : n < 2 ^ 31) (kk : PW G own nm cc nL ret d kc ks Q pc' ls (.int (I a j) :: rest) S I) : PW G own nm cc nL ret d kc ks Q pc ls (.int i :: .ref a :: rest) S I := by
  subst hp
  subst hj
  intro p e R s m args below meth c H locs cells slots arr hC
  obtain ⟨hx, hb, hr, hml, hown, hlk, hnm, hts, hO, hS, hP, hl, hR⟩ := id hC
  have he : (wsO G S I)[a]? = some (gB G + a, .inl (gCy G 11, n, .inl (I a))) := by rw [wsO_at ha, ht, cellO_int (by decide) (by decide)]
  show W _ _ _ _ _ _ _ _ _ _ _ _ _ _ _ (F0 m pc arr (.int (nI j) :: .ref (gA G a) :: rest.map (em G)))
  rw [gA_lt ha hP.2.1]
  refine va_zald hx hb hO.1 hP.2.2 a 2 he rfl (vp_in_nI hlt hn) hd ?_
  rw [nI_clamp (by omega)]
  exact kk p e R s m args below meth c H locs cells slots arr hC
theorem P_cald {G : GX} {own nm : String} {cc : ByteArray} {nL : Nat} {ret : Option FieldType} {d kc ks : Nat} {Q : Option Value → Shp → Mem → Prop} {pc pc' : Nat} {ls : List (Option Value)} {rest : List Value} {S : Shp} {I : Mem} {a n j : Nat} {i : Int32} (hd : decode cc pc = .ok (.caload, 1)) (hp : pc + 1 = pc') (ha : a < S.1) (ht : S.2.1 a = (12, n)) (hj : i = nI j) (hlt : j < n) (hn : n < 2 ^ 31) (kk : PW G own nm cc nL ret d kc ks Q pc' ls (.int (I a j) :: rest) S I) : PW G own nm cc nL ret d kc ks Q pc ls (.int i :: .ref a :: rest) S I := by
  subst hp
  subst hj
  intro p e R s m args below meth c H locs cells slots arr hC
  obtain ⟨hx, hb, hr, hml, hown, hlk, hnm, hts, hO, hS, hP, hl, hR⟩ := id hC
  have he : (wsO G S I)[a]? = some (gB G + a, .inl (gCy G 12, n, .inl (I a))) := by rw [wsO_at ha, ht, cellO_int (by decide) (by decide)]
  show W _ _ _ _ _ _ _ _ _ _ _ _ _ _ _ (F0 m pc arr (.int (nI j) :: .ref (gA G a) :: rest.map (em G)))
  rw [gA_lt ha hP.2.1]
  refine va_cald hx hb hO.1 hP.2.2 a 3 he rfl (vp_in_nI hlt hn) hd ?_
  rw [nI_clamp (by omega)]
  exact kk p e R s m args below meth c H locs cells slots arr hC
theorem P_iast {G : GX} {own nm : String} {cc : ByteArray} {nL : Nat} {ret : Option FieldType} {d kc ks : Nat} {Q : Option Value → Shp → Mem → Prop} {pc pc' : Nat} {ls : List (Option Value)} {rest : List Value} {S : Shp} {I : Mem} {a n j : Nat} {i v : Int32} (hd : decode cc pc = .ok (.iastore, 1)) (hp : pc + 1 = pc') (ha : a < S.1) (ht : S.2.1 a = (9, n)) (hj : i = nI j) (hlt : j < n) (hn : n < 2 ^ 31) (kk : PW G own nm cc nL ret d kc ks Q pc' ls rest S (u2 I a j v)) : PW G own nm cc nL ret d kc ks Q pc ls (.int v :: .int i :: .ref a :: rest) S I := by
  subst hp
  subst hj
  intro p e R s m args below meth c H locs cells slots arr hC
  obtain ⟨hx, hb, hr, hml, hown, hlk, hnm, hts, hO, hS, hP, hl, hR⟩ := id hC
  have he : (wsO G S I)[a]? = some (gB G + a, .inl (gCy G 9, n, .inl (I a))) := by rw [wsO_at ha, ht, cellO_int (by decide) (by decide)]
  show W _ _ _ _ _ _ _ _ _ _ _ _ _ _ _ (F0 m pc arr (.int v :: .int (nI j) :: .ref (gA G a) :: rest.map (em G)))
  rw [gA_lt ha hP.2.1]
  refine W.iast hx hb (hP.2.2 a _ he) ((hO.1.2 0 _ rfl).1 n (fun j => .int (I a j))) (fun q => by cases q) (by show ¬ (nI j < 0 ∨ (arrV _ _ _).slots.size ≤ _); rw [arrV_size]; exact vp_in_nI hlt hn) rfl rfl hd fun H1 e1 z oq => ?_
  have hP1 := hP.2.2.set (wsO_D G S I) he (e := .inl (gCy G 9, n, .inl (upd (I a) j v))) (by
    show H1[gB G + a]? = some (vp_cell _ _)
    rw [e1, nI_clamp (by omega), vp_cell_i, vp_cell_i, arrV_store]
    congr 2
    funext q
    by_cases hq : q = j
    · subst hq
      simp [updV, upd, vp_nar]
      try rfl
    · simp [updV, upd, hq]) oq
  rw [wsO_arr (by decide) (by decide) ha ht] at hP1
  exact kk p e R s m args below meth c H1 _ cells slots arr ⟨hx, hb, hr, hml, hown, hlk, hnm, hts, hO, hS.put z oq (Nat.le_add_right _ _), ⟨by rw [z]; exact hP.1, hP.2.1, hP1⟩, hl, hR⟩
theorem P_bast {G : GX} {own nm : String} {cc : ByteArray} {nL : Nat} {ret : Option FieldType} {d kc ks : Nat} {Q : Option Value → Shp → Mem → Prop} {pc pc' : Nat} {ls : List (Option Value)} {rest : List Value} {S : Shp} {I : Mem} {a n j : Nat} {i v : Int32} (hd : decode cc pc = .ok (.bastore, 1)) (hp : pc + 1 = pc') (ha : a < S.1) (ht : S.2.1 a = (10, n)) (hj : i = nI j) (hlt : j < n) (hn : n < 2 ^ 31) (kk : PW G own nm cc nL ret d kc ks Q pc' ls rest S (u2 I a j (vp_nar .byte v))) : PW G own nm cc nL ret d kc ks Q pc ls (.int v :: .int i :: .ref a :: rest) S I := by
  subst hp
  subst hj
  intro p e R s m args below meth c H locs cells slots arr hC
  obtain ⟨hx, hb, hr, hml, hown, hlk, hnm, hts, hO, hS, hP, hl, hR⟩ := id hC
  have he : (wsO G S I)[a]? = some (gB G + a, .inl (gCy G 10, n, .inl (I a))) := by rw [wsO_at ha, ht, cellO_int (by decide) (by decide)]
  show W _ _ _ _ _ _ _ _ _ _ _ _ _ _ _ (F0 m pc arr (.int v :: .int (nI j) :: .ref (gA G a) :: rest.map (em G)))
  rw [gA_lt ha hP.2.1]
  refine W.bast hx hb (hP.2.2 a _ he) ((hO.1.2 1 _ rfl).1 n (fun j => .int (I a j))) (fun q => by cases q) (by show ¬ (nI j < 0 ∨ (arrV _ _ _).slots.size ≤ _); rw [arrV_size]; exact vp_in_nI hlt hn) rfl rfl hd fun H1 e1 z oq => ?_
  have hP1 := hP.2.2.set (wsO_D G S I) he (e := .inl (gCy G 10, n, .inl (upd (I a) j (vp_nar .byte v)))) (by
    show H1[gB G + a]? = some (vp_cell _ _)
    rw [e1, nI_clamp (by omega), vp_cell_i, vp_cell_i, arrV_store]
    congr 2
    funext q
    by_cases hq : q = j
    · subst hq
      simp [updV, upd, vp_nar]
      try rfl
    · simp [updV, upd, hq]) oq
  rw [wsO_arr (by decide) (by decide) ha ht] at hP1
  exact kk p e R s m args below meth c H1 _ cells slots arr ⟨hx, hb, hr, hml, hown, hlk, hnm, hts, hO, hS.put z oq (Nat.le_add_right _ _), ⟨by rw [z]; exact hP.1, hP.2.1, hP1⟩, hl, hR⟩
theorem P_zast {G : GX} {own nm : String} {cc : ByteArray} {nL : Nat} {ret : Option FieldType} {d kc ks : Nat} {Q : Option Value → Shp → Mem → Prop} {pc pc' : Nat} {ls : List (Option Value)} {rest : List Value} {S : Shp} {I : Mem} {a n j : Nat} {i v : Int32} (hd : decode cc pc = .ok (.bastore, 1)) (hp : pc + 1 = pc') (ha : a < S.1) (ht : S.2.1 a = (11, n)) (hj : i = nI j) (hlt : j < n) (hn : n < 2 ^ 31) (kk : PW G own nm cc nL ret d kc ks Q pc' ls rest S (u2 I a j (vp_nar .boolean v))) : PW G own nm cc nL ret d kc ks Q pc ls (.int v :: .int i :: .ref a :: rest) S I := by
  subst hp
  subst hj
  intro p e R s m args below meth c H locs cells slots arr hC
  obtain ⟨hx, hb, hr, hml, hown, hlk, hnm, hts, hO, hS, hP, hl, hR⟩ := id hC
  have he : (wsO G S I)[a]? = some (gB G + a, .inl (gCy G 11, n, .inl (I a))) := by rw [wsO_at ha, ht, cellO_int (by decide) (by decide)]
  show W _ _ _ _ _ _ _ _ _ _ _ _ _ _ _ (F0 m pc arr (.int v :: .int (nI j) :: .ref (gA G a) :: rest.map (em G)))
  rw [gA_lt ha hP.2.1]
  refine W.zast hx hb (hP.2.2 a _ he) ((hO.1.2 2 _ rfl).1 n (fun j => .int (I a j))) (fun q => by cases q) (by show ¬ (nI j < 0 ∨ (arrV _ _ _).slots.size ≤ _); rw [arrV_size]; exact vp_in_nI hlt hn) rfl rfl hd fun H1 e1 z oq => ?_
  have hP1 := hP.2.2.set (wsO_D G S I) he (e := .inl (gCy G 11, n, .inl (upd (I a) j (vp_nar .boolean v)))) (by
    show H1[gB G + a]? = some (vp_cell _ _)
    rw [e1, nI_clamp (by omega), vp_cell_i, vp_cell_i, arrV_store]
    congr 2
    funext q
    by_cases hq : q = j
    · subst hq
      simp [updV, upd, vp_nar]
      try rfl
    · simp [updV, upd, hq]) oq
  rw [wsO_arr (by decide) (by decide) ha ht] at hP1
  exact kk p e R s m args below meth c H1 _ cells slots arr ⟨hx, hb, hr, hml, hown, hlk, hnm, hts, hO, hS.put z oq (Nat.le_add_right _ _), ⟨by rw [z]; exact hP.1, hP.2.1, hP1⟩, hl, hR⟩
theorem P_cast {G : GX} {own nm : String} {cc : ByteArray} {nL : Nat} {ret : Option FieldType} {d kc ks : Nat} {Q : Option Value → Shp → Mem → Prop} {pc pc' : Nat} {ls : List (Option Value)} {rest : List Value} {S : Shp} {I : Mem} {a n j : Nat} {i v : Int32} (hd : decode cc pc = .ok (.castore, 1)) (hp : pc + 1 = pc') (ha : a < S.1) (ht : S.2.1 a = (12, n)) (hj : i = nI j) (hlt : j < n) (hn : n < 2 ^ 31) (kk : PW G own nm cc nL ret d kc ks Q pc' ls rest S (u2 I a j (vp_nar .char v))) : PW G own nm cc nL ret d kc ks Q pc ls (.int v :: .int i :: .ref a :: rest) S I := by
  subst hp
  subst hj
  intro p e R s m args below meth c H locs cells slots arr hC
  obtain ⟨hx, hb, hr, hml, hown, hlk, hnm, hts, hO, hS, hP, hl, hR⟩ := id hC
  have he : (wsO G S I)[a]? = some (gB G + a, .inl (gCy G 12, n, .inl (I a))) := by rw [wsO_at ha, ht, cellO_int (by decide) (by decide)]
  show W _ _ _ _ _ _ _ _ _ _ _ _ _ _ _ (F0 m pc arr (.int v :: .int (nI j) :: .ref (gA G a) :: rest.map (em G)))
  rw [gA_lt ha hP.2.1]
  refine W.cast hx hb (hP.2.2 a _ he) ((hO.1.2 3 _ rfl).1 n (fun j => .int (I a j))) (fun q => by cases q) (by show ¬ (nI j < 0 ∨ (arrV _ _ _).slots.size ≤ _); rw [arrV_size]; exact vp_in_nI hlt hn) rfl rfl hd fun H1 e1 z oq => ?_
  have hP1 := hP.2.2.set (wsO_D G S I) he (e := .inl (gCy G 12, n, .inl (upd (I a) j (vp_nar .char v)))) (by
    show H1[gB G + a]? = some (vp_cell _ _)
    rw [e1, nI_clamp (by omega), vp_cell_i, vp_cell_i, arrV_store]
    congr 2
    funext q
    by_cases hq : q = j
    · subst hq
      simp [updV, upd, vp_nar]
      try rfl
    · simp [updV, upd, hq]) oq
  rw [wsO_arr (by decide) (by decide) ha ht] at hP1
  exact kk p e R s m args below meth c H1 _ cells slots arr ⟨hx, hb, hr, hml, hown, hlk, hnm, hts, hO, hS.put z oq (Nat.le_add_right _ _), ⟨by rw [z]; exact hP.1, hP.2.1, hP1⟩, hl, hR⟩
theorem P_alen {G : GX} {own nm : String} {cc : ByteArray} {nL : Nat} {ret : Option FieldType} {d kc ks : Nat} {Q : Option Value → Shp → Mem → Prop} {pc pc' : Nat} {ls : List (Option Value)} {rest : List Value} {S : Shp} {I : Mem} {a c n : Nat} (hd : decode cc pc = .ok (.arraylength, 1)) (hp : pc + 1 = pc') (ha : a < S.1) (ht : S.2.1 a = (c, n)) (h9 : 9 ≤ c) (h13 : c < 16) (kk : PW G own nm cc nL ret d kc ks Q pc' ls (.int (nI n) :: rest) S I) : PW G own nm cc nL ret d kc ks Q pc ls (.ref a :: rest) S I := by
  subst hp
  intro p e R s m args below meth c_1 H locs cells slots arr hC
  obtain ⟨hx, hb, hr, hml, hown, hlk, hnm, hts, hO, hS, hP, hl, hR⟩ := id hC
  have hk := kk p e R s m args below meth c_1 H locs cells slots arr hC
  show W _ _ _ _ _ _ _ _ _ _ _ _ _ _ _ (F0 m pc arr (.ref (gA G a) :: rest.map (em G)))
  rw [gA_lt ha hP.2.1]
  by_cases h : c < 13
  · have he : (wsO G S I)[a]? = some (gB G + a, .inl (gCy G c, n, .inl (I a))) := by rw [wsO_at ha, ht, cellO_int h9 h]
    have : c = 9 ∨ c = 10 ∨ c = 11 ∨ c = 12 := by omega
    rcases this with rfl | rfl | rfl | rfl
    · exact va_alen hx hb hO.1 hP.2.2 a 0 he rfl rfl hd hk
    · exact va_alen hx hb hO.1 hP.2.2 a 1 he rfl rfl hd hk
    · exact va_alen hx hb hO.1 hP.2.2 a 2 he rfl rfl hd hk
    · exact va_alen hx hb hO.1 hP.2.2 a 3 he rfl rfl hd hk
  · have he : (wsO G S I)[a]? = some (gB G + a, .inl (gCy G c, n, .inr (.inr (.inr (.inr (fun j => (S.2.2 a j).map (gA G))))))) := by rw [wsO_at ha, ht, cellO_ref (by omega)]
    have : c = 13 ∨ c = 14 ∨ c = 15 := by omega
    rcases this with rfl | rfl | rfl
    · exact va_alen hx hb hO.1 hP.2.2 a 4 he rfl rfl hd hk
    · exact va_alen hx hb hO.1 hP.2.2 a 5 he rfl rfl hd hk
    · exact va_alen hx hb hO.1 hP.2.2 a 6 he rfl rfl hd hk
theorem P_aald13 {G : GX} {own nm : String} {cc : ByteArray} {nL : Nat} {ret : Option FieldType} {d kc ks : Nat} {Q : Option Value → Shp → Mem → Prop} {pc pc' : Nat} {ls : List (Option Value)} {rest : List Value} {S : Shp} {I : Mem} {a n j : Nat} {i : Int32} {x : Option Nat} (hd : decode cc pc = .ok (.aaload, 1)) (hp : pc + 1 = pc') (ha : a < S.1) (ht : S.2.1 a = (13, n)) (hj : i = nI j) (hlt : j < n) (hn : n < 2 ^ 31) (hv : S.2.2 a j = x) (kk : PW G own nm cc nL ret d kc ks Q pc' ls (va_rf x :: rest) S I) : PW G own nm cc nL ret d kc ks Q pc ls (.int i :: .ref a :: rest) S I := by
  subst hp
  subst hj
  subst hv
  intro p e R s m args below meth c H locs cells slots arr hC
  obtain ⟨hx, hb, hr, hml, hown, hlk, hnm, hts, hO, hS, hP, hl, hR⟩ := id hC
  have he : (wsO G S I)[a]? = some (gB G + a, .inl (gCy G 13, n, .inr (.inr (.inr (.inr (fun j => (S.2.2 a j).map (gA G))))))) := by rw [wsO_at ha, ht, cellO_ref (by decide)]
  have hk := kk p e R s m args below meth c H locs cells slots arr hC
  show W _ _ _ _ _ _ _ _ _ _ _ _ _ _ _ (F0 m pc arr (.int (nI j) :: .ref (gA G a) :: rest.map (em G)))
  rw [gA_lt ha hP.2.1]
  refine va_aldq hx hb hO.1 hP.2.2 a 4 he rfl (vp_in_nI hlt hn) hd ?_
  rw [nI_clamp (by omega)]
  have e1 : em G (va_rf (S.2.2 a j)) = va_rf ((S.2.2 a j).map (gA G)) := by cases S.2.2 a j <;> rfl
  rw [← e1]
  exact hk
theorem P_aast13 {G : GX} {own nm : String} {cc : ByteArray} {nL : Nat} {ret : Option FieldType} {d kc ks : Nat} {Q : Option Value → Shp → Mem → Prop} {pc pc' : Nat} {ls : List (Option Value)} {rest : List Value} {S : Shp} {I : Mem} {a n j b n2 : Nat} {i : Int32} (hd : decode cc pc = .ok (.aastore, 1)) (hp : pc + 1 = pc') (ha : a < S.1) (ht : S.2.1 a = (13, n)) (hj : i = nI j) (hlt : j < n) (hn : n < 2 ^ 31) (hb2 : b < S.1) (htb : S.2.1 b = (2, n2)) (kk : PW G own nm cc nL ret d kc ks Q pc' ls rest (S.1, S.2.1, p2 S.2.2 a j (some b)) I) : PW G own nm cc nL ret d kc ks Q pc ls (.ref b :: .int i :: .ref a :: rest) S I := by
  subst hp
  subst hj
  intro p e R s m args below meth c H locs cells slots arr hC
  obtain ⟨hx, hb, hr, hml, hown, hlk, hnm, hts, hO, hS, hP, hl, hR⟩ := id hC
  have he : (wsO G S I)[a]? = some (gB G + a, .inl (gCy G 13, n, .inr (.inr (.inr (.inr (fun j => (S.2.2 a j).map (gA G))))))) := by rw [wsO_at ha, ht, cellO_ref (by decide)]
  have heb : (wsO G S I)[b]? = some (gB G + b, .inr (2, (List.range (nFl 2)).map (fldO G 2 (S.2.2 b) (I b)))) := by rw [wsO_at hb2, htb, cellO_obj (by decide)]
  show W _ _ _ _ _ _ _ _ _ _ _ _ _ _ _ (F0 m pc arr (.ref (gA G b) :: .int (nI j) :: .ref (gA G a) :: rest.map (em G)))
  rw [gA_lt ha hP.2.1, gA_lt hb2 hP.2.1]
  obtain ⟨r', hr', cellV, g1, g2, g3, -⟩ := hP.2.2 b _ heb
  have hcls := (hO.1.1 2 _ rfl).2
  obtain ⟨kA, comp, k1, k2, k3, -⟩ := (hO.1.2 4 _ rfl).2
  have hcomp : comp = (gD G).1 2 := Option.some.inj (k3.symm.trans hcls.1)
  subst hcomp
  obtain ⟨kC, hkC, -⟩ := id hcls.2
  refine W.aast hx hb (hP.2.2 a _ he) (fun q h => by cases h) (fun h => by cases h) k1 k2 rfl hkC ⟨nI_pos (by omega), by show _ < (arrV _ _ _).slots.size; rw [arrV_size, nI_clamp (by omega)]; exact hlt⟩ g1 (fun q h => by rw [g3] at h; cases h) (by rw [g2]; exact hkC) (by rw [g2]; exact va_assign hcls) rfl rfl hd fun H1 e1 z oq => ?_
  have hP1 := hP.2.2.set (wsO_D G S I) he (e := .inl (gCy G 13, n, .inr (.inr (.inr (.inr (va_up (fun j => (S.2.2 a j).map (gA G)) j (some (gA G b)))))))) (by
    show H1[gB G + a]? = some (vp_cell _ _)
    rw [e1, nI_clamp (by omega), vp_cell_q, vp_cell_q, arrV_store]
    congr 2
    funext q
    by_cases hq : q = j
    · subst hq
      simp [updV, va_up, va_rf, gA_lt hb2 hP.2.1]
    · simp [updV, va_up, hq]) oq
  rw [wsO_aref (by decide) ha ht] at hP1
  exact kk p e R s m args below meth c H1 _ cells slots arr ⟨hx, hb, hr, hml, hown, hlk, hnm, hts, hO, hS.put z oq (Nat.le_add_right _ _), ⟨by rw [z]; exact hP.1, hP.2.1, hP1⟩, hl, hR⟩
theorem P_aald14 {G : GX} {own nm : String} {cc : ByteArray} {nL : Nat} {ret : Option FieldType} {d kc ks : Nat} {Q : Option Value → Shp → Mem → Prop} {pc pc' : Nat} {ls : List (Option Value)} {rest : List Value} {S : Shp} {I : Mem} {a n j : Nat} {i : Int32} {x : Option Nat} (hd : decode cc pc = .ok (.aaload, 1)) (hp : pc + 1 = pc') (ha : a < S.1) (ht : S.2.1 a = (14, n)) (hj : i = nI j) (hlt : j < n) (hn : n < 2 ^ 31) (hv : S.2.2 a j = x) (kk : PW G own nm cc nL ret d kc ks Q pc' ls (va_rf x :: rest) S I) : PW G own nm cc nL ret d kc ks Q pc ls (.int i :: .ref a :: rest) S I := by
  subst hp
  subst hj
  subst hv
  intro p e R s m args below meth c H locs cells slots arr hC
  obtain ⟨hx, hb, hr, hml, hown, hlk, hnm, hts, hO, hS, hP, hl, hR⟩ := id hC
  have he : (wsO G S I)[a]? = some (gB G + a, .inl (gCy G 14, n, .inr (.inr (.inr (.inr (fun j => (S.2.2 a j).map (gA G))))))) := by rw [wsO_at ha, ht, cellO_ref (by decide)]
  have hk := kk p e R s m args below meth c H locs cells slots arr hC
  show W _ _ _ _ _ _ _ _ _ _ _ _ _ _ _ (F0 m pc arr (.int (nI j) :: .ref (gA G a) :: rest.map (em G)))
  rw [gA_lt ha hP.2.1]
  refine va_aldq hx hb hO.1 hP.2.2 a 5 he rfl (vp_in_nI hlt hn) hd ?_
  rw [nI_clamp (by omega)]
  have e1 : em G (va_rf (S.2.2 a j)) = va_rf ((S.2.2 a j).map (gA G)) := by cases S.2.2 a j <;> rfl
  rw [← e1]
  exact hk
theorem P_aast14 {G : GX} {own nm : String} {cc : ByteArray} {nL : Nat} {ret : Option FieldType} {d kc ks : Nat} {Q : Option Value → Shp → Mem → Prop} {pc pc' : Nat} {ls : List (Option Value)} {rest : List Value} {S : Shp} {I : Mem} {a n j b n2 : Nat} {i : Int32} (hd : decode cc pc = .ok (.aastore, 1)) (hp : pc + 1 = pc') (ha : a < S.1) (ht : S.2.1 a = (14, n)) (hj : i = nI j) (hlt : j < n) (hn : n < 2 ^ 31) (hb2 : b < S.1) (htb : S.2.1 b = (3, n2)) (kk : PW G own nm cc nL ret d kc ks Q pc' ls rest (S.1, S.2.1, p2 S.2.2 a j (some b)) I) : PW G own nm cc nL ret d kc ks Q pc ls (.ref b :: .int i :: .ref a :: rest) S I := by
  subst hp
  subst hj
  intro p e R s m args below meth c H locs cells slots arr hC
  obtain ⟨hx, hb, hr, hml, hown, hlk, hnm, hts, hO, hS, hP, hl, hR⟩ := id hC
  have he : (wsO G S I)[a]? = some (gB G + a, .inl (gCy G 14, n, .inr (.inr (.inr (.inr (fun j => (S.2.2 a j).map (gA G))))))) := by rw [wsO_at ha, ht, cellO_ref (by decide)]
  have heb : (wsO G S I)[b]? = some (gB G + b, .inr (3, (List.range (nFl 3)).map (fldO G 3 (S.2.2 b) (I b)))) := by rw [wsO_at hb2, htb, cellO_obj (by decide)]
  show W _ _ _ _ _ _ _ _ _ _ _ _ _ _ _ (F0 m pc arr (.ref (gA G b) :: .int (nI j) :: .ref (gA G a) :: rest.map (em G)))
  rw [gA_lt ha hP.2.1, gA_lt hb2 hP.2.1]
  obtain ⟨r', hr', cellV, g1, g2, g3, -⟩ := hP.2.2 b _ heb
  have hcls := (hO.1.1 3 _ rfl).2
  obtain ⟨kA, comp, k1, k2, k3, -⟩ := (hO.1.2 5 _ rfl).2
  have hcomp : comp = (gD G).1 3 := Option.some.inj (k3.symm.trans hcls.1)
  subst hcomp
  obtain ⟨kC, hkC, -⟩ := id hcls.2
  refine W.aast hx hb (hP.2.2 a _ he) (fun q h => by cases h) (fun h => by cases h) k1 k2 rfl hkC ⟨nI_pos (by omega), by show _ < (arrV _ _ _).slots.size; rw [arrV_size, nI_clamp (by omega)]; exact hlt⟩ g1 (fun q h => by rw [g3] at h; cases h) (by rw [g2]; exact hkC) (by rw [g2]; exact va_assign hcls) rfl rfl hd fun H1 e1 z oq => ?_
  have hP1 := hP.2.2.set (wsO_D G S I) he (e := .inl (gCy G 14, n, .inr (.inr (.inr (.inr (va_up (fun j => (S.2.2 a j).map (gA G)) j (some (gA G b)))))))) (by
    show H1[gB G + a]? = some (vp_cell _ _)
    rw [e1, nI_clamp (by omega), vp_cell_q, vp_cell_q, arrV_store]
    congr 2
    funext q
    by_cases hq : q = j
    · subst hq
      simp [updV, va_up, va_rf, gA_lt hb2 hP.2.1]
    · simp [updV, va_up, hq]) oq
  rw [wsO_aref (by decide) ha ht] at hP1
  exact kk p e R s m args below meth c H1 _ cells slots arr ⟨hx, hb, hr, hml, hown, hlk, hnm, hts, hO, hS.put z oq (Nat.le_add_right _ _), ⟨by rw [z]; exact hP.1, hP.2.1, hP1⟩, hl, hR⟩
theorem P_aald15 {G : GX} {own nm : String} {cc : ByteArray} {nL : Nat} {ret : Option FieldType} {d kc ks : Nat} {Q : Option Value → Shp → Mem → Prop} {pc pc' : Nat} {ls : List (Option Value)} {rest : List Value} {S : Shp} {I : Mem} {a n j : Nat} {i : Int32} {x : Option Nat} (hd : decode cc pc = .ok (.aaload, 1)) (hp : pc + 1 = pc') (ha : a < S.1) (ht : S.2.1 a = (15, n)) (hj : i = nI j) (hlt : j < n) (hn : n < 2 ^ 31) (hv : S.2.2 a j = x) (kk : PW G own nm cc nL ret d kc ks Q pc' ls (va_rf x :: rest) S I) : PW G own nm cc nL ret d kc ks Q pc ls (.int i :: .ref a :: rest) S I := by
  subst hp
  subst hj
  subst hv
  intro p e R s m args below meth c H locs cells slots arr hC
  obtain ⟨hx, hb, hr, hml, hown, hlk, hnm, hts, hO, hS, hP, hl, hR⟩ := id hC
  have he : (wsO G S I)[a]? = some (gB G + a, .inl (gCy G 15, n, .inr (.inr (.inr (.inr (fun j => (S.2.2 a j).map (gA G))))))) := by rw [wsO_at ha, ht, cellO_ref (by decide)]
  have hk := kk p e R s m args below meth c H locs cells slots arr hC
  show W _ _ _ _ _ _ _ _ _ _ _ _ _ _ _ (F0 m pc arr (.int (nI j) :: .ref (gA G a) :: rest.map (em G)))
  rw [gA_lt ha hP.2.1]
  refine va_aldq hx hb hO.1 hP.2.2 a 6 he rfl (vp_in_nI hlt hn) hd ?_
  rw [nI_clamp (by omega)]
  have e1 : em G (va_rf (S.2.2 a j)) = va_rf ((S.2.2 a j).map (gA G)) := by cases S.2.2 a j <;> rfl
  rw [← e1]
  exact hk
theorem P_aast15 {G : GX} {own nm : String} {cc : ByteArray} {nL : Nat} {ret : Option FieldType} {d kc ks : Nat} {Q : Option Value → Shp → Mem → Prop} {pc pc' : Nat} {ls : List (Option Value)} {rest : List Value} {S : Shp} {I : Mem} {a n j b n2 : Nat} {i : Int32} (hd : decode cc pc = .ok (.aastore, 1)) (hp : pc + 1 = pc') (ha : a < S.1) (ht : S.2.1 a = (15, n)) (hj : i = nI j) (hlt : j < n) (hn : n < 2 ^ 31) (hb2 : b < S.1) (htb : S.2.1 b = (6, n2)) (kk : PW G own nm cc nL ret d kc ks Q pc' ls rest (S.1, S.2.1, p2 S.2.2 a j (some b)) I) : PW G own nm cc nL ret d kc ks Q pc ls (.ref b :: .int i :: .ref a :: rest) S I := by
  subst hp
  subst hj
  intro p e R s m args below meth c H locs cells slots arr hC
  obtain ⟨hx, hb, hr, hml, hown, hlk, hnm, hts, hO, hS, hP, hl, hR⟩ := id hC
  have he : (wsO G S I)[a]? = some (gB G + a, .inl (gCy G 15, n, .inr (.inr (.inr (.inr (fun j => (S.2.2 a j).map (gA G))))))) := by rw [wsO_at ha, ht, cellO_ref (by decide)]
  have heb : (wsO G S I)[b]? = some (gB G + b, .inr (6, (List.range (nFl 6)).map (fldO G 6 (S.2.2 b) (I b)))) := by rw [wsO_at hb2, htb, cellO_obj (by decide)]
  show W _ _ _ _ _ _ _ _ _ _ _ _ _ _ _ (F0 m pc arr (.ref (gA G b) :: .int (nI j) :: .ref (gA G a) :: rest.map (em G)))
  rw [gA_lt ha hP.2.1, gA_lt hb2 hP.2.1]
  obtain ⟨r', hr', cellV, g1, g2, g3, -⟩ := hP.2.2 b _ heb
  have hcls := (hO.1.1 6 _ rfl).2
  obtain ⟨kA, comp, k1, k2, k3, -⟩ := (hO.1.2 6 _ rfl).2
  have hcomp : comp = (gD G).1 6 := Option.some.inj (k3.symm.trans hcls.1)
  subst hcomp
  obtain ⟨kC, hkC, -⟩ := id hcls.2
  refine W.aast hx hb (hP.2.2 a _ he) (fun q h => by cases h) (fun h => by cases h) k1 k2 rfl hkC ⟨nI_pos (by omega), by show _ < (arrV _ _ _).slots.size; rw [arrV_size, nI_clamp (by omega)]; exact hlt⟩ g1 (fun q h => by rw [g3] at h; cases h) (by rw [g2]; exact hkC) (by rw [g2]; exact va_assign hcls) rfl rfl hd fun H1 e1 z oq => ?_
  have hP1 := hP.2.2.set (wsO_D G S I) he (e := .inl (gCy G 15, n, .inr (.inr (.inr (.inr (va_up (fun j => (S.2.2 a j).map (gA G)) j (some (gA G b)))))))) (by
    show H1[gB G + a]? = some (vp_cell _ _)
    rw [e1, nI_clamp (by omega), vp_cell_q, vp_cell_q, arrV_store]
    congr 2
    funext q
    by_cases hq : q = j
    · subst hq
      simp [updV, va_up, va_rf, gA_lt hb2 hP.2.1]
    · simp [updV, va_up, hq]) oq
  rw [wsO_aref (by decide) ha ht] at hP1
  exact kk p e R s m args below meth c H1 _ cells slots arr ⟨hx, hb, hr, hml, hown, hlk, hnm, hts, hO, hS.put z oq (Nat.le_add_right _ _), ⟨by rw [z]; exact hP.1, hP.2.1, hP1⟩, hl, hR⟩
