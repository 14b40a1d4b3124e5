def CLk (own : String) (idx c : Nat) : Prop :=
  ∃ (C : String) (T : u_T) (N : Nat) (ty0 : Nat → FieldType), vwCl[c]? = some (C, T, N) ∧ N = nFl c ∧ c < 9 ∧ Cond.classLink own idx C ∈ lw_tbl ∧ Cond.instantiable C N ∈ lw_tbl ∧ Cond.initialized C ∈ lw_tbl ∧ (∀ w ∈ u_ws C T N, w ∈ lw_g) ∧ (∀ k, k < N → parseFieldDescriptor (T k).2.2.1 = some (ty0 k)) ∧ (∀ k, k < N → defaultValue (ty0 k) = if rfF c k = true then .null else .int 0)
theorem nS_old {G : GX} {S : Shp} {I : Mem} {q : Nat × Nat} {i : Nat} (h : i < S.1) : cellO G ((nS S q).2.1 i) ((nS S q).2.2 i) (nM S I i) = cellO G (S.2.1 i) (S.2.2 i) (I i) := by
  have h1 : (nS S q).2.1 i = S.2.1 i := if_neg (by omega)
  have h2 : (nS S q).2.2 i = S.2.2 i := by funext j; exact if_neg (by omega)
  have h3 : nM S I i = I i := by funext j; exact if_neg (by omega)
  rw [h1, h2, h3]
theorem nS_t (S : Shp) (q : Nat × Nat) : (nS S q).2.1 S.1 = q := if_pos rfl
theorem nS_p (S : Shp) (q : Nat × Nat) (j : Nat) : (nS S q).2.2 S.1 j = none := if_pos rfl
theorem nM_0 (S : Shp) (I : Mem) : nM S I S.1 = fun _ => 0 := by funext j; exact if_pos rfl
theorem nS_p' (S : Shp) (q : Nat × Nat) : (nS S q).2.2 S.1 = fun _ => none := by funext j; exact if_pos rfl
theorem P_new {G : GX} {own nm : String} {cc : ByteArray} {nL : Nat} {ret : Option FieldType} {d kc ks : Nat} {Q : Option Value → Shp → Mem → Prop} {pc pc' : Nat} {ls : List (Option Value)} {rest : List Value} {S : Shp} {I : Mem} {idx c : Nat} (hd : decode cc pc = .ok (.new idx, 3)) (hp : pc + 3 = pc') (hf : CLk own idx c) (hcap : S.1 + 1 ≤ 900000) (kk : PW G own nm cc nL ret d kc ks Q pc' ls (.ref S.1 :: rest) (nS S (c, 0)) (nM S I)) : PW G own nm cc nL ret d (kc + 1) (ks + nFl c) Q pc ls rest S I := by
  subst hp
  obtain ⟨C, T, N, ty0, f1, f2, f3, f4, f5, f6, f7, f8, f9⟩ := hf
  intro p e R s m args below meth c0 H locs cells slots arr hC
  obtain ⟨hx, hb, hr, hml, hown, hlk, hnm, hts, hO, hS, hP, hl, hR⟩ := id hC
  have hKn := hO.1.1 c _ f1
  have hz := hP.1
  refine W.newcK hx hb hown (hts _ (lw_in f4 rfl)) (hts _ (lw_in f5 rfl)) (hts _ (lw_in f6 rfl)) rfl hd (by omega) (by omega) hKn.2.1 hP.1 fun H1 kC hkC e1 z1 o1 => ?_
  have hk : ∀ (k : Nat) (x : Nat × va_E), (wsO G S I)[k]? = some x → H1[x.1]? = H[x.1]? := fun k x hx => o1 x.1 (by have := (hP.2.2 k x hx).lt; omega)
  have hP1 : va_P (gD G) vwCl (wsO G S I ++ [(gB G + S.1, .inr (c, (List.range (nFl c)).map (fldO G c (fun _ => none) (fun _ => 0))))]) H1 := by
    refine (hP.2.2.kept hk).app (fun k x hx => ?_)
    have hz : k < 1 := (List.getElem?_eq_some_iff.mp hx).1
    rw [show k = 0 by omega] at hx
    cases hx
    refine ⟨_, f1, (u_born ty0 hts f7 hKn hkC e1 f8).to (fun j hj => ?_)⟩
    rw [f9 j hj]
    unfold vp_V
    rw [List.getD_eq_getElem?_getD, List.getElem?_map, List.getElem?_range (by omega)]
    simp [fldO, va_rf]
  have hcell : cellO G ((nS S (c, 0)).2.1 S.1) ((nS S (c, 0)).2.2 S.1) (nM S I S.1) = .inr (c, (List.range (nFl c)).map (fldO G c (fun _ => none) (fun _ => 0))) := by
    rw [nS_t, nM_0, nS_p', cellO_obj f3]
  rw [← hcell, wsO_push (S' := nS S (c, 0)) (I' := nM S I) rfl (fun i hi => nS_old hi)] at hP1
  have hk2 := kk p e R s m args below meth c0 H1 locs (cells + 1) (slots + nFl c) arr ⟨hx, hb, hr, hml, hown, hlk, hnm, hts, hO, ⟨Nat.le_trans hS.1 (by omega), fun x h1 h2 => (o1 x (by have := hS.1; omega)).trans (hS.2.1 x h1 h2), hS.2.2⟩, ⟨by rw [z1]; show _ = gB G + (S.1 + 1); omega, hcap, hP1⟩, hl, by omega⟩
  have e2 : gA G S.1 = gB G + S.1 := if_pos (by omega)
  subst f2
  rw [show cells + (kc + 1) = cells + 1 + kc by omega, show slots + (ks + nFl c) = slots + nFl c + ks by omega]
  have hk2 : W _ _ _ _ _ _ _ _ _ _ _ _ _ _ _ (F0 m (pc + 3) arr (.ref (gA G S.1) :: rest.map (em G))) := hk2
  rw [e2] at hk2
  exact hk2
theorem P_newi {G : GX} {own nm : String} {cc : ByteArray} {nL : Nat} {ret : Option FieldType} {d kc ks : Nat} {Q : Option Value → Shp → Mem → Prop} {pc pc' : Nat} {ls : List (Option Value)} {rest : List Value} {S : Shp} {I : Mem} {n : Int32} {N : Nat} (hd : decode cc pc = .ok (.newarray .int, 2)) (hp : pc + 2 = pc') (hw : Cond.arrayClass .int ∈ lw_tbl) (hn : n = nI N) (hN : N ≤ 100000) (hcap : S.1 + 1 ≤ 900000) (kk : PW G own nm cc nL ret d kc ks Q pc' ls (.ref S.1 :: rest) (nS S (9, N)) (nM S I)) : PW G own nm cc nL ret d (kc + 1) (ks + N) Q pc ls (.int n :: rest) S I := by
  subst hp
  subst hn
  intro p e R s m args below meth c0 H locs cells slots arr hC
  obtain ⟨hx, hb, hr, hml, hown, hlk, hnm, hts, hO, hS, hP, hl, hR⟩ := id hC
  have hz := hP.1
  refine va_newaK (atype := .int) hx hb (hts _ (lw_in hw rfl)) rfl hd rfl (nI_pos (by omega)) (nI_clamp (by omega)) (by show N * componentBytes .int ≤ _; simp [componentBytes]; omega) (by omega) (by omega) hP.1 fun H1 cA e1 z1 o1 hAr hNm => ?_
  have hcy : cA = gCy G 9 := by
    have h1 := (hO.1.2 0 _ rfl).2
    exact Option.some.inj (hNm.symm.trans h1)
  subst hcy
  have hk : ∀ (k : Nat) (x : Nat × va_E), (wsO G S I)[k]? = some x → H1[x.1]? = H[x.1]? := fun k x hx => o1 x.1 (by have := (hP.2.2 k x hx).lt; omega)
  have hP1 : va_P (gD G) vwCl (wsO G S I ++ [(gB G + S.1, .inl (gCy G 9, N, .inl (fun _ => 0)))]) H1 := by
    refine (hP.2.2.kept hk).app (fun k x hx => ?_)
    have hz : k < 1 := (List.getElem?_eq_some_iff.mp hx).1
    rw [show k = 0 by omega] at hx
    cases hx
    exact e1
  have hcell : cellO G ((nS S (9, N)).2.1 S.1) ((nS S (9, N)).2.2 S.1) (nM S I S.1) = .inl (gCy G 9, N, .inl (fun _ => 0)) := by
    rw [nS_t, nM_0, cellO_int (by decide) (by decide)]
  rw [← hcell, wsO_push (S' := nS S (9, N)) (I' := nM S I) rfl (fun i hi => nS_old hi)] at hP1
  have hk2 := kk p e R s m args below meth c0 H1 locs (cells + 1) (slots + N) arr ⟨hx, hb, hr, hml, hown, hlk, hnm, hts, hO, ⟨Nat.le_trans hS.1 (by omega), fun x h1 h2 => (o1 x (by have := hS.1; omega)).trans (hS.2.1 x h1 h2), hS.2.2⟩, ⟨by rw [z1]; show _ = gB G + (S.1 + 1); omega, hcap, hP1⟩, hl, by omega⟩
  have e2 : gA G S.1 = gB G + S.1 := if_pos (by omega)
  rw [show cells + (kc + 1) = cells + 1 + kc by omega, show slots + (ks + N) = slots + N + ks by omega]
  have hk2 : W _ _ _ _ _ _ _ _ _ _ _ _ _ _ _ (F0 m (pc + 2) arr (.ref (gA G S.1) :: rest.map (em G))) := hk2
  rw [e2] at hk2
  exact hk2
theorem P_newb {G : GX} {own nm : String} {cc : ByteArray} {nL : Nat} {ret : Option FieldType} {d kc ks : Nat} {Q : Option Value → Shp → Mem → Prop} {pc pc' : Nat} {ls : List (Option Value)} {rest : List Value} {S : Shp} {I : Mem} {n : Int32} {N : Nat} (hd : decode cc pc = .ok (.newarray .byte, 2)) (hp : pc + 2 = pc') (hw : Cond.arrayClass .byte ∈ lw_tbl) (hn : n = nI N) (hN : N ≤ 100000) (hcap : S.1 + 1 ≤ 900000) (kk : PW G own nm cc nL ret d kc ks Q pc' ls (.ref S.1 :: rest) (nS S (10, N)) (nM S I)) : PW G own nm cc nL ret d (kc + 1) (ks + N) Q pc ls (.int n :: rest) S I := by
  subst hp
  subst hn
  intro p e R s m args below meth c0 H locs cells slots arr hC
  obtain ⟨hx, hb, hr, hml, hown, hlk, hnm, hts, hO, hS, hP, hl, hR⟩ := id hC
  have hz := hP.1
  refine va_newaK (atype := .byte) hx hb (hts _ (lw_in hw rfl)) rfl hd rfl (nI_pos (by omega)) (nI_clamp (by omega)) (by show N * componentBytes .byte ≤ _; simp [componentBytes]; omega) (by omega) (by omega) hP.1 fun H1 cA e1 z1 o1 hAr hNm => ?_
  have hcy : cA = gCy G 10 := by
    have h1 := (hO.1.2 1 _ rfl).2
    exact Option.some.inj (hNm.symm.trans h1)
  subst hcy
  have hk : ∀ (k : Nat) (x : Nat × va_E), (wsO G S I)[k]? = some x → H1[x.1]? = H[x.1]? := fun k x hx => o1 x.1 (by have := (hP.2.2 k x hx).lt; omega)
  have hP1 : va_P (gD G) vwCl (wsO G S I ++ [(gB G + S.1, .inl (gCy G 10, N, .inl (fun _ => 0)))]) H1 := by
    refine (hP.2.2.kept hk).app (fun k x hx => ?_)
    have hz : k < 1 := (List.getElem?_eq_some_iff.mp hx).1
    rw [show k = 0 by omega] at hx
    cases hx
    exact e1
  have hcell : cellO G ((nS S (10, N)).2.1 S.1) ((nS S (10, N)).2.2 S.1) (nM S I S.1) = .inl (gCy G 10, N, .inl (fun _ => 0)) := by
    rw [nS_t, nM_0, cellO_int (by decide) (by decide)]
  rw [← hcell, wsO_push (S' := nS S (10, N)) (I' := nM S I) rfl (fun i hi => nS_old hi)] at hP1
  have hk2 := kk p e R s m args below meth c0 H1 locs (cells + 1) (slots + N) arr ⟨hx, hb, hr, hml, hown, hlk, hnm, hts, hO, ⟨Nat.le_trans hS.1 (by omega), fun x h1 h2 => (o1 x (by have := hS.1; omega)).trans (hS.2.1 x h1 h2), hS.2.2⟩, ⟨by rw [z1]; show _ = gB G + (S.1 + 1); omega, hcap, hP1⟩, hl, by omega⟩
  have e2 : gA G S.1 = gB G + S.1 := if_pos (by omega)
  rw [show cells + (kc + 1) = cells + 1 + kc by omega, show slots + (ks + N) = slots + N + ks by omega]
  have hk2 : W _ _ _ _ _ _ _ _ _ _ _ _ _ _ _ (F0 m (pc + 2) arr (.ref (gA G S.1) :: rest.map (em G))) := hk2
  rw [e2] at hk2
  exact hk2
theorem P_newz {G : GX} {own nm : String} {cc : ByteArray} {nL : Nat} {ret : Option FieldType} {d kc ks : Nat} {Q : Option Value → Shp → Mem → Prop} {pc pc' : Nat} {ls : List (Option Value)} {rest : List Value} {S : Shp} {I : Mem} {n : Int32} {N : Nat} (hd : decode cc pc = .ok (.newarray .boolean, 2)) (hp : pc + 2 = pc') (hw : Cond.arrayClass .boolean ∈ lw_tbl) (hn : n = nI N) (hN : N ≤ 100000) (hcap : S.1 + 1 ≤ 900000) (kk : PW G own nm cc nL ret d kc ks Q pc' ls (.ref S.1 :: rest) (nS S (11, N)) (nM S I)) : PW G own nm cc nL ret d (kc + 1) (ks + N) Q pc ls (.int n :: rest) S I := by
  subst hp
  subst hn
  intro p e R s m args below meth c0 H locs cells slots arr hC
  obtain ⟨hx, hb, hr, hml, hown, hlk, hnm, hts, hO, hS, hP, hl, hR⟩ := id hC
  have hz := hP.1
  refine va_newaK (atype := .boolean) hx hb (hts _ (lw_in hw rfl)) rfl hd rfl (nI_pos (by omega)) (nI_clamp (by omega)) (by show N * componentBytes .boolean ≤ _; simp [componentBytes]; omega) (by omega) (by omega) hP.1 fun H1 cA e1 z1 o1 hAr hNm => ?_
  have hcy : cA = gCy G 11 := by
    have h1 := (hO.1.2 2 _ rfl).2
    exact Option.some.inj (hNm.symm.trans h1)
  subst hcy
  have hk : ∀ (k : Nat) (x : Nat × va_E), (wsO G S I)[k]? = some x → H1[x.1]? = H[x.1]? := fun k x hx => o1 x.1 (by have := (hP.2.2 k x hx).lt; omega)
  have hP1 : va_P (gD G) vwCl (wsO G S I ++ [(gB G + S.1, .inl (gCy G 11, N, .inl (fun _ => 0)))]) H1 := by
    refine (hP.2.2.kept hk).app (fun k x hx => ?_)
    have hz : k < 1 := (List.getElem?_eq_some_iff.mp hx).1
    rw [show k = 0 by omega] at hx
    cases hx
    exact e1
  have hcell : cellO G ((nS S (11, N)).2.1 S.1) ((nS S (11, N)).2.2 S.1) (nM S I S.1) = .inl (gCy G 11, N, .inl (fun _ => 0)) := by
    rw [nS_t, nM_0, cellO_int (by decide) (by decide)]
  rw [← hcell, wsO_push (S' := nS S (11, N)) (I' := nM S I) rfl (fun i hi => nS_old hi)] at hP1
  have hk2 := kk p e R s m args below meth c0 H1 locs (cells + 1) (slots + N) arr ⟨hx, hb, hr, hml, hown, hlk, hnm, hts, hO, ⟨Nat.le_trans hS.1 (by omega), fun x h1 h2 => (o1 x (by have := hS.1; omega)).trans (hS.2.1 x h1 h2), hS.2.2⟩, ⟨by rw [z1]; show _ = gB G + (S.1 + 1); omega, hcap, hP1⟩, hl, by omega⟩
  have e2 : gA G S.1 = gB G + S.1 := if_pos (by omega)
  rw [show cells + (kc + 1) = cells + 1 + kc by omega, show slots + (ks + N) = slots + N + ks by omega]
  have hk2 : W _ _ _ _ _ _ _ _ _ _ _ _ _ _ _ (F0 m (pc + 2) arr (.ref (gA G S.1) :: rest.map (em G))) := hk2
  rw [e2] at hk2
  exact hk2
theorem P_newch {G : GX} {own nm : String} {cc : ByteArray} {nL : Nat} {ret : Option FieldType} {d kc ks : Nat} {Q : Option Value → Shp → Mem → Prop} {pc pc' : Nat} {ls : List (Option Value)} {rest : List Value} {S : Shp} {I : Mem} {n : Int32} {N : Nat} (hd : decode cc pc = .ok (.newarray .char, 2)) (hp : pc + 2 = pc') (hw : Cond.arrayClass .char ∈ lw_tbl) (hn : n = nI N) (hN : N ≤ 100000) (hcap : S.1 + 1 ≤ 900000) (kk : PW G own nm cc nL ret d kc ks Q pc' ls (.ref S.1 :: rest) (nS S (12, N)) (nM S I)) : PW G own nm cc nL ret d (kc + 1) (ks + N) Q pc ls (.int n :: rest) S I := by
  subst hp
  subst hn
  intro p e R s m args below meth c0 H locs cells slots arr hC
  obtain ⟨hx, hb, hr, hml, hown, hlk, hnm, hts, hO, hS, hP, hl, hR⟩ := id hC
  have hz := hP.1
  refine va_newaK (atype := .char) hx hb (hts _ (lw_in hw rfl)) rfl hd rfl (nI_pos (by omega)) (nI_clamp (by omega)) (by show N * componentBytes .char ≤ _; simp [componentBytes]; omega) (by omega) (by omega) hP.1 fun H1 cA e1 z1 o1 hAr hNm => ?_
  have hcy : cA = gCy G 12 := by
    have h1 := (hO.1.2 3 _ rfl).2
    exact Option.some.inj (hNm.symm.trans h1)
  subst hcy
  have hk : ∀ (k : Nat) (x : Nat × va_E), (wsO G S I)[k]? = some x → H1[x.1]? = H[x.1]? := fun k x hx => o1 x.1 (by have := (hP.2.2 k x hx).lt; omega)
  have hP1 : va_P (gD G) vwCl (wsO G S I ++ [(gB G + S.1, .inl (gCy G 12, N, .inl (fun _ => 0)))]) H1 := by
    refine (hP.2.2.kept hk).app (fun k x hx => ?_)
    have hz : k < 1 := (List.getElem?_eq_some_iff.mp hx).1
    rw [show k = 0 by omega] at hx
    cases hx
    exact e1
  have hcell : cellO G ((nS S (12, N)).2.1 S.1) ((nS S (12, N)).2.2 S.1) (nM S I S.1) = .inl (gCy G 12, N, .inl (fun _ => 0)) := by
    rw [nS_t, nM_0, cellO_int (by decide) (by decide)]
  rw [← hcell, wsO_push (S' := nS S (12, N)) (I' := nM S I) rfl (fun i hi => nS_old hi)] at hP1
  have hk2 := kk p e R s m args below meth c0 H1 locs (cells + 1) (slots + N) arr ⟨hx, hb, hr, hml, hown, hlk, hnm, hts, hO, ⟨Nat.le_trans hS.1 (by omega), fun x h1 h2 => (o1 x (by have := hS.1; omega)).trans (hS.2.1 x h1 h2), hS.2.2⟩, ⟨by rw [z1]; show _ = gB G + (S.1 + 1); omega, hcap, hP1⟩, hl, by omega⟩
  have e2 : gA G S.1 = gB G + S.1 := if_pos (by omega)
  rw [show cells + (kc + 1) = cells + 1 + kc by omega, show slots + (ks + N) = slots + N + ks by omega]
  have hk2 : W _ _ _ _ _ _ _ _ _ _ _ _ _ _ _ (F0 m (pc + 2) arr (.ref (gA G S.1) :: rest.map (em G))) := hk2
  rw [e2] at hk2
  exact hk2
theorem P_newr13 {G : GX} {own nm : String} {cc : ByteArray} {nL : Nat} {ret : Option FieldType} {d kc ks : Nat} {Q : Option Value → Shp → Mem → Prop} {pc pc' : Nat} {ls : List (Option Value)} {rest : List Value} {S : Shp} {I : Mem} {n : Int32} {N idx : Nat} (hd : decode cc pc = .ok (.anewarray idx, 3)) (hp : pc + 3 = pc') (hw : Cond.classLink own idx RX3 ∈ lw_tbl) (hn : n = nI N) (hN : N ≤ 100000) (hcap : S.1 + 1 ≤ 900000) (kk : PW G own nm cc nL ret d kc ks Q pc' ls (.ref S.1 :: rest) (nS S (13, N)) (nM S I)) : PW G own nm cc nL ret d (kc + 1) (ks + N) Q pc ls (.int n :: rest) S I := by
  subst hp
  subst hn
  intro p e R s m args below meth c0 H locs cells slots arr hC
  obtain ⟨hx, hb, hr, hml, hown, hlk, hnm, hts, hO, hS, hP, hl, hR⟩ := id hC
  have hz := hP.1
  have hcl : (nI N).toNatClampNeg = N := nI_clamp (by omega)
  refine W.anew hx hb hown (hts _ (lw_in hw rfl)) (va_AO.use hO.2.2.2.2.1) rfl hd rfl (nI_pos (by omega)) (by rw [hcl]; omega) (by omega) (by rw [hcl]; omega) fun cA kA comp f1 f2 f3 f4 => ?_
  rw [hcl]
  have hcy : cA = gCy G 13 := by
    obtain ⟨kB, cB, h1, h2, h3, h4⟩ := (hO.1.2 4 _ rfl).2
    exact Option.some.inj (f1.symm.trans h4)
  subst hcy
  generalize hH1 : H.push ({ cls := gCy G 13, slots := Array.replicate N .null, vm := .none } : Cell) = H1
  have z1 : H1.size = H.size + 1 := by rw [← hH1, Array.size_push]
  have e1 : H1[H.size]? = some (arrV (gCy G 13) N (fun _ => .null)) := by rw [← hH1, Array.getElem?_push_size, ← arrV_new]
  have o1 : ∀ q : Nat, q < H.size → H1[q]? = H[q]? := fun q hq => by rw [← hH1, Array.getElem?_push, if_neg (Nat.ne_of_lt hq)]
  have hk : ∀ (k : Nat) (x : Nat × va_E), (wsO G S I)[k]? = some x → H1[x.1]? = H[x.1]? := fun k x hx => o1 x.1 ((hP.2.2 k x hx).lt)
  have hP1 : va_P (gD G) vwCl (wsO G S I ++ [(gB G + S.1, .inl (gCy G 13, N, .inr (.inr (.inr (.inr (fun _ => none))))))]) H1 := by
    refine (hP.2.2.kept hk).app (fun k x hx => ?_)
    have hz : k < 1 := (List.getElem?_eq_some_iff.mp hx).1
    rw [show k = 0 by omega] at hx
    cases hx
    show H1[gB G + S.1]? = some (vp_cell _ _)
    rw [← hP.1]
    exact e1
  have hcell : cellO G ((nS S (13, N)).2.1 S.1) ((nS S (13, N)).2.2 S.1) (nM S I S.1) = .inl (gCy G 13, N, .inr (.inr (.inr (.inr (fun _ => none))))) := by
    rw [nS_t, nS_p', cellO_ref (by decide)]
    rfl
  rw [← hcell, wsO_push (S' := nS S (13, N)) (I' := nM S I) rfl (fun i hi => nS_old hi)] at hP1
  have hk2 := kk p e R s m args below meth c0 H1 locs (cells + 1) (slots + N) arr ⟨hx, hb, hr, hml, hown, hlk, hnm, hts, hO, ⟨Nat.le_trans hS.1 (by omega), fun x h1 h2 => (o1 x (by have := hS.1; omega)).trans (hS.2.1 x h1 h2), hS.2.2⟩, ⟨by rw [z1, hP.1]; show _ = gB G + (S.1 + 1); omega, hcap, hP1⟩, hl, by omega⟩
  have e2 : gA G S.1 = H.size := by rw [hP.1]; exact if_pos (by omega)
  rw [show cells + (kc + 1) = cells + 1 + kc by omega, show slots + (ks + N) = slots + N + ks by omega]
  have hk2 : W _ _ _ _ _ _ _ _ _ _ _ _ _ _ _ (F0 m (pc + 3) arr (.ref (gA G S.1) :: rest.map (em G))) := hk2
  rw [e2] at hk2
  exact hk2
theorem P_newr14 {G : GX} {own nm : String} {cc : ByteArray} {nL : Nat} {ret : Option FieldType} {d kc ks : Nat} {Q : Option Value → Shp → Mem → Prop} {pc pc' : Nat} {ls : List (Option Value)} {rest : List Value} {S : Shp} {I : Mem} {n : Int32} {N idx : Nat} (hd : decode cc pc = .ok (.anewarray idx, 3)) (hp : pc + 3 = pc') (hw : Cond.classLink own idx RX4 ∈ lw_tbl) (hn : n = nI N) (hN : N ≤ 100000) (hcap : S.1 + 1 ≤ 900000) (kk : PW G own nm cc nL ret d kc ks Q pc' ls (.ref S.1 :: rest) (nS S (14, N)) (nM S I)) : PW G own nm cc nL ret d (kc + 1) (ks + N) Q pc ls (.int n :: rest) S I := by
  subst hp
  subst hn
  intro p e R s m args below meth c0 H locs cells slots arr hC
  obtain ⟨hx, hb, hr, hml, hown, hlk, hnm, hts, hO, hS, hP, hl, hR⟩ := id hC
  have hz := hP.1
  have hcl : (nI N).toNatClampNeg = N := nI_clamp (by omega)
  refine W.anew hx hb hown (hts _ (lw_in hw rfl)) (va_AO.use hO.2.2.2.2.2.1) rfl hd rfl (nI_pos (by omega)) (by rw [hcl]; omega) (by omega) (by rw [hcl]; omega) fun cA kA comp f1 f2 f3 f4 => ?_
  rw [hcl]
  have hcy : cA = gCy G 14 := by
    obtain ⟨kB, cB, h1, h2, h3, h4⟩ := (hO.1.2 5 _ rfl).2
    exact Option.some.inj (f1.symm.trans h4)
  subst hcy
  generalize hH1 : H.push ({ cls := gCy G 14, slots := Array.replicate N .null, vm := .none } : Cell) = H1
  have z1 : H1.size = H.size + 1 := by rw [← hH1, Array.size_push]
  have e1 : H1[H.size]? = some (arrV (gCy G 14) N (fun _ => .null)) := by rw [← hH1, Array.getElem?_push_size, ← arrV_new]
  have o1 : ∀ q : Nat, q < H.size → H1[q]? = H[q]? := fun q hq => by rw [← hH1, Array.getElem?_push, if_neg (Nat.ne_of_lt hq)]
  have hk : ∀ (k : Nat) (x : Nat × va_E), (wsO G S I)[k]? = some x → H1[x.1]? = H[x.1]? := fun k x hx => o1 x.1 ((hP.2.2 k x hx).lt)
  have hP1 : va_P (gD G) vwCl (wsO G S I ++ [(gB G + S.1, .inl (gCy G 14, N, .inr (.inr (.inr (.inr (fun _ => none))))))]) H1 := by
    refine (hP.2.2.kept hk).app (fun k x hx => ?_)
    have hz : k < 1 := (List.getElem?_eq_some_iff.mp hx).1
    rw [show k = 0 by omega] at hx
    cases hx
    show H1[gB G + S.1]? = some (vp_cell _ _)
    rw [← hP.1]
    exact e1
  have hcell : cellO G ((nS S (14, N)).2.1 S.1) ((nS S (14, N)).2.2 S.1) (nM S I S.1) = .inl (gCy G 14, N, .inr (.inr (.inr (.inr (fun _ => none))))) := by
    rw [nS_t, nS_p', cellO_ref (by decide)]
    rfl
  rw [← hcell, wsO_push (S' := nS S (14, N)) (I' := nM S I) rfl (fun i hi => nS_old hi)] at hP1
  have hk2 := kk p e R s m args below meth c0 H1 locs (cells + 1) (slots + N) arr ⟨hx, hb, hr, hml, hown, hlk, hnm, hts, hO, ⟨Nat.le_trans hS.1 (by omega), fun x h1 h2 => (o1 x (by have := hS.1; omega)).trans (hS.2.1 x h1 h2), hS.2.2⟩, ⟨by rw [z1, hP.1]; show _ = gB G + (S.1 + 1); omega, hcap, hP1⟩, hl, by omega⟩
  have e2 : gA G S.1 = H.size := by rw [hP.1]; exact if_pos (by omega)
  rw [show cells + (kc + 1) = cells + 1 + kc by omega, show slots + (ks + N) = slots + N + ks by omega]
  have hk2 : W _ _ _ _ _ _ _ _ _ _ _ _ _ _ _ (F0 m (pc + 3) arr (.ref (gA G S.1) :: rest.map (em G))) := hk2
  rw [e2] at hk2
  exact hk2
theorem P_newr15 {G : GX} {own nm : String} {cc : ByteArray} {nL : Nat} {ret : Option FieldType} {d kc ks : Nat} {Q : Option Value → Shp → Mem → Prop} {pc pc' : Nat} {ls : List (Option Value)} {rest : List Value} {S : Shp} {I : Mem} {n : Int32} {N idx : Nat} (hd : decode cc pc = .ok (.anewarray idx, 3)) (hp : pc + 3 = pc') (hw : Cond.classLink own idx RX7 ∈ lw_tbl) (hn : n = nI N) (hN : N ≤ 100000) (hcap : S.1 + 1 ≤ 900000) (kk : PW G own nm cc nL ret d kc ks Q pc' ls (.ref S.1 :: rest) (nS S (15, N)) (nM S I)) : PW G own nm cc nL ret d (kc + 1) (ks + N) Q pc ls (.int n :: rest) S I := by
  subst hp
  subst hn
  intro p e R s m args below meth c0 H locs cells slots arr hC
  obtain ⟨hx, hb, hr, hml, hown, hlk, hnm, hts, hO, hS, hP, hl, hR⟩ := id hC
  have hz := hP.1
  have hcl : (nI N).toNatClampNeg = N := nI_clamp (by omega)
  refine W.anew hx hb hown (hts _ (lw_in hw rfl)) (va_AO.use hO.2.2.2.2.2.2) rfl hd rfl (nI_pos (by omega)) (by rw [hcl]; omega) (by omega) (by rw [hcl]; omega) fun cA kA comp f1 f2 f3 f4 => ?_
  rw [hcl]
  have hcy : cA = gCy G 15 := by
    obtain ⟨kB, cB, h1, h2, h3, h4⟩ := (hO.1.2 6 _ rfl).2
    exact Option.some.inj (f1.symm.trans h4)
  subst hcy
  generalize hH1 : H.push ({ cls := gCy G 15, slots := Array.replicate N .null, vm := .none } : Cell) = H1
  have z1 : H1.size = H.size + 1 := by rw [← hH1, Array.size_push]
  have e1 : H1[H.size]? = some (arrV (gCy G 15) N (fun _ => .null)) := by rw [← hH1, Array.getElem?_push_size, ← arrV_new]
  have o1 : ∀ q : Nat, q < H.size → H1[q]? = H[q]? := fun q hq => by rw [← hH1, Array.getElem?_push, if_neg (Nat.ne_of_lt hq)]
  have hk : ∀ (k : Nat) (x : Nat × va_E), (wsO G S I)[k]? = some x → H1[x.1]? = H[x.1]? := fun k x hx => o1 x.1 ((hP.2.2 k x hx).lt)
  have hP1 : va_P (gD G) vwCl (wsO G S I ++ [(gB G + S.1, .inl (gCy G 15, N, .inr (.inr (.inr (.inr (fun _ => none))))))]) H1 := by
    refine (hP.2.2.kept hk).app (fun k x hx => ?_)
    have hz : k < 1 := (List.getElem?_eq_some_iff.mp hx).1
    rw [show k = 0 by omega] at hx
    cases hx
    show H1[gB G + S.1]? = some (vp_cell _ _)
    rw [← hP.1]
    exact e1
  have hcell : cellO G ((nS S (15, N)).2.1 S.1) ((nS S (15, N)).2.2 S.1) (nM S I S.1) = .inl (gCy G 15, N, .inr (.inr (.inr (.inr (fun _ => none))))) := by
    rw [nS_t, nS_p', cellO_ref (by decide)]
    rfl
  rw [← hcell, wsO_push (S' := nS S (15, N)) (I' := nM S I) rfl (fun i hi => nS_old hi)] at hP1
  have hk2 := kk p e R s m args below meth c0 H1 locs (cells + 1) (slots + N) arr ⟨hx, hb, hr, hml, hown, hlk, hnm, hts, hO, ⟨Nat.le_trans hS.1 (by omega), fun x h1 h2 => (o1 x (by have := hS.1; omega)).trans (hS.2.1 x h1 h2), hS.2.2⟩, ⟨by rw [z1, hP.1]; show _ = gB G + (S.1 + 1); omega, hcap, hP1⟩, hl, by omega⟩
  have e2 : gA G S.1 = H.size := by rw [hP.1]; exact if_pos (by omega)
  rw [show cells + (kc + 1) = cells + 1 + kc by omega, show slots + (ks + N) = slots + N + ks by omega]
  have hk2 : W _ _ _ _ _ _ _ _ _ _ _ _ _ _ _ (F0 m (pc + 3) arr (.ref (gA G S.1) :: rest.map (em G))) := hk2
  rw [e2] at hk2
  exact hk2
theorem lw_gg {y : MethodName} {cc : ByteArray} {nL : Nat} {ret : Option FieldType} (h : Cond.code y cc nL ret ∈ lw_tbl) : GoodIn lw_g (Cond.code y cc nL ret :: lw_g) := by
  have k1 : ∀ w ∈ lw_g, w ∈ lw_g ∧ ((w.onTables && w.keeps) = true ∨ ∃ ty, w = .arrayClass ty) := fun w hw => ⟨hw, good_of_word (List.mem_filter.mp hw).2⟩
  intro w hw
  rcases List.mem_cons.mp hw with rfl | hw
  · exact k1 _ (lw_in h rfl)
  · exact k1 w hw
theorem PM.blind {G : GX} {as : List Value} {S : Shp} {I : Mem} : FrameBlind (fun v U => v = (as.map (em G)).toArray ∧ OkS G U ∧ Hp G S I U.heap) := fun a U g mk h =>
  ⟨h.1, OkS.go (s := U) (U := U.calling g mk a) (H := U.heap) (State.WarmedH.refl U) rfl (Nat.le_refl _) (fun _ _ => rfl) h.2.1, h.2.2⟩
theorem CX.pre {G : GX} {own nm : String} {cc : ByteArray} {nL : Nat} {ret : Option FieldType} {d kc ks : Nat} {ls : List (Option Value)} {S : Shp} {I : Mem} {p : Program} {R : Room} {s : State} {m : MethodId} {args : Array Value} {meth : Method} {c : Code} {H : Heap} {locs : List Loc} {cells slots : Nat} {arr : Array Slot} (hC : CX G own nm cc nL ret d kc ks ls S I p R s m args meth c H locs cells slots arr) (as : List Value) : ∀ U : State, U.heap = H → s.WarmedH U.vm → (as.map (em G)).toArray = (as.map (em G)).toArray ∧ OkS G U ∧ Hp G S I U.heap := by
  intro U hU hW
  obtain ⟨hx, hb, hr, hml, hown, hlk, hnm, hts, hO, hS, hP, hl, hR⟩ := hC
  exact ⟨rfl, hO.go hW hU hS.1 (fun q hq => hS.2.1 q (Nat.lt_of_lt_of_le hq hO.2.1) (Nat.not_le.mpr hq)), by rw [hU]; exact hP⟩
theorem W_run {G : GX} {own nm : String} {cc : ByteArray} {nL : Nat} {ret : Option FieldType} {d kc ks : Nat} {Q : Option Value → Shp → Mem → Prop} {pc pc' : Nat} {ls : List (Option Value)} {rest : List Value} {S : Shp} {I : Mem} {Q' : Option Value → Shp → Mem → Prop} {mc ms : Nat} {st0 : List Value} {a : Array Value} {p : Program} {e : Env} {R : Room} {s : State} {m : MethodId} {args : Array Value} {below : List Frame} {meth : Method} {c : Code} {H : Heap} {locs : List Loc} {cells slots : Nat} {arr : Array Slot} (hp : pc + 3 = pc') (hC : CX G own nm cc nL ret d (kc + mc) (ks + ms) ls S I p R s m args meth c H locs cells slots arr)
    (hrun : va_Run p G.1 e R s m args below meth c H locs cells slots mc ms (F0 m pc arr st0) (rest.map (em G)) (QC G Q' a) (gF G)) (k : ∀ r S' I', Q' r S' I' → PW G own nm cc nL ret d kc ks Q pc' ls (r.toList ++ rest) S' I') :
    W p G.1 e R s m args below meth c H locs cells slots (MQ below (QC G Q) args s (cells + (kc + mc)) (slots + (ks + ms)) (gF G)) (F0 m pc arr st0) := by
  subst hp
  obtain ⟨hx, hb, hr, hml, hown, hlk, hnm, hts, hO, hS, hP, hl, hR⟩ := hC
  intro T hT X
  obtain ⟨v, st₀, t, T', L, h0, X', hL, e1, e2, ⟨r, S', I', hv, hq, hH, hz, hf⟩, st⟩ := hrun T hT X
  have hv : v = r.map (em G) := Outcome.returned.inj hv
  rw [h0] at hz hf
  obtain ⟨t2, a1, b1⟩ := k r S' I' hq p e R s m args below meth c T'.heap (locs ++ L) (cells + mc) (slots + ms) arr ⟨hx, hb, hr, hml, hown, hlk, hnm, hts, hO,
    ⟨by rw [e1]; exact Nat.le_trans hS.1 hz, fun q h1 h2 => by rw [e1, hf q (Nat.not_le.mp h2)]; exact hS.2.1 q h1 h2, fun q hq => by
      rcases List.mem_append.mp hq with h | h
      · exact hS.2.2 q h
      · exact hL q h⟩, by rw [e1]; exact hH, hl, by omega⟩ T' rfl X'
  have e3 : (r.toList ++ rest).map (em G) = v.toList ++ rest.map (em G) := by
    rw [hv]
    cases r <;> simp
  rw [e3] at a1
  rw [show cells + (kc + mc) = cells + mc + kc by omega, show slots + (ks + ms) = slots + ms + ks by omega]
  exact ⟨t2, st t2 a1, b1⟩
abbrev okY (y : MethodName) (n : Nat) : Prop := y.cls ≠ "java/lang/invoke/MethodHandle" ∧ y.cls ≠ "java/lang/invoke/VarHandle" ∧ (parseMethodDescriptor y.desc).map (fun d => d.parameters.length) = some n
def LkS (own : String) (idx : Nat) (y : MethodName) (cc : ByteArray) (nL : Nat) (ret : Option FieldType) (n : Nat) : Prop := Cond.methodLink own idx y ∈ lw_tbl ∧ Cond.static y ∈ lw_tbl ∧ Cond.initialized y.cls ∈ lw_tbl ∧ Cond.code y cc nL ret ∈ lw_tbl ∧ okY y n ∧ nL ≤ 21
def LkSN (own : String) (idx : Nat) (y : MethodName) (cc : ByteArray) (nL : Nat) (ret : Option FieldType) (n : Nat) : Prop := (∃ host, (own, idx, y, host) ∈ nestL) ∧ Cond.static y ∈ lw_tbl ∧ Cond.initialized y.cls ∈ lw_tbl ∧ Cond.code y cc nL ret ∈ lw_tbl ∧ okY y n ∧ nL ≤ 21
def LkV (own : String) (idx : Nat) (y : MethodName) (cc : ByteArray) (nL : Nat) (ret : Option FieldType) (n ci : Nat) : Prop := Cond.methodLink own idx y ∈ lw_tbl ∧ Cond.instanceMethod y ∈ lw_tbl ∧ Cond.selects y.cls y y ∈ lw_tbl ∧ Cond.initialized y.cls ∈ lw_tbl ∧ Cond.code y cc nL ret ∈ lw_tbl ∧ okY y n ∧ nL ≤ 21 ∧ ci < 9 ∧ ∃ T N, vwCl[ci]? = some (y.cls, T, N)
def LkI (own : String) (idx : Nat) (y : MethodName) (cc : ByteArray) (nL : Nat) (n : Nat) : Prop := Cond.methodLink own idx y ∈ lw_tbl ∧ Cond.instanceMethod y ∈ lw_tbl ∧ y.name = "<init>" ∧ Cond.initialized y.cls ∈ lw_tbl ∧ Cond.code y cc nL none ∈ lw_tbl ∧ okY y n ∧ nL ≤ 21
def LkIN (own : String) (idx : Nat) (y : MethodName) (cc : ByteArray) (nL : Nat) (n : Nat) : Prop := (∃ host, (own, idx, y, host) ∈ nestL) ∧ Cond.instanceMethod y ∈ lw_tbl ∧ y.name = "<init>" ∧ Cond.initialized y.cls ∈ lw_tbl ∧ Cond.code y cc nL none ∈ lw_tbl ∧ okY y n ∧ nL ≤ 21
theorem P_callS {G : GX} {own nm : String} {cc : ByteArray} {nL : Nat} {ret : Option FieldType} {d kc ks : Nat} {Q : Option Value → Shp → Mem → Prop} {pc pc' : Nat} {ls : List (Option Value)} {rest : List Value} {S : Shp} {I : Mem} {idx n : Nat} {y : MethodName} {cc2 : ByteArray} {nL2 d2 mc ms : Nat} {as : List Value} {Q' : Option Value → Shp → Mem → Prop} {st : List Value} {ret2 : Option FieldType} (hd : decode cc pc = .ok (.invokestatic idx, 3)) (hp : pc + 3 = pc') (hw : LkS own idx y cc2 nL2 ret2 n) (hM : PM G y cc2 nL2 ret2 d2 mc ms as S I Q') (hst : st = as.reverse ++ rest) (hd2 : d2 + 1 ≤ d) (hn : as.length = n) (hsum : (rest.map fun v => v.category).sum ≤ 8) (k : ∀ r S' I', Q' r S' I' → PW G own nm cc nL ret d kc ks Q pc' ls (r.toList ++ rest) S' I') : PW G own nm cc nL ret d (kc + mc) (ks + ms) Q pc ls st S I := by
  obtain ⟨w1, w2, w3, w4, w5, w6⟩ := hw
  intro p e R s m args below meth c0 H locs cells slots arr hC
  obtain ⟨hx, hb, hr, hml, hown, hlk, hnm, hts, hO, hS, hP, hl, hR⟩ := id hC
  refine W_run hp hC (va_runS (As := as.map (em G)) (rest := rest.map (em G)) ⟨hx, hb, hml, hown, hts⟩ hM ⟨callB_of n hts (lw_gg w4) rfl rfl rfl (hts _ (lw_in w3 rfl)) (hts _ (lw_in w1 rfl)) w5 ⟨by show d2 + 1 ≤ R.frames; omega, by show 8 + (nL2 + 11) + 40 * d2 ≤ R.locals; omega⟩, hts _ (lw_in w2 rfl)⟩ ⟨PM.blind, hC.pre as⟩ rfl (by simpa using hn) hl.1 (by rw [hst, List.map_append, List.map_reverse]) (lv_room (by rw [em_sum]; exact hsum)) hd ⟨by omega, by omega⟩) k
theorem P_callSN {G : GX} {own nm : String} {cc : ByteArray} {nL : Nat} {ret : Option FieldType} {d kc ks : Nat} {Q : Option Value → Shp → Mem → Prop} {pc pc' : Nat} {ls : List (Option Value)} {rest : List Value} {S : Shp} {I : Mem} {idx n : Nat} {y : MethodName} {cc2 : ByteArray} {nL2 d2 mc ms : Nat} {as : List Value} {Q' : Option Value → Shp → Mem → Prop} {st : List Value} {ret2 : Option FieldType} (hd : decode cc pc = .ok (.invokestatic idx, 3)) (hp : pc + 3 = pc') (hw : LkSN own idx y cc2 nL2 ret2 n) (hM : PM G y cc2 nL2 ret2 d2 mc ms as S I Q') (hst : st = as.reverse ++ rest) (hd2 : d2 + 1 ≤ d) (hn : as.length = n) (hsum : (rest.map fun v => v.category).sum ≤ 8) (k : ∀ r S' I', Q' r S' I' → PW G own nm cc nL ret d kc ks Q pc' ls (r.toList ++ rest) S' I') : PW G own nm cc nL ret d (kc + mc) (ks + ms) Q pc ls st S I := by
  obtain ⟨⟨host, w1⟩, w2, w3, w4, w5, w6⟩ := hw
  intro p e R s m args below meth c0 H locs cells slots arr hC
  obtain ⟨hx, hb, hr, hml, hown, hlk, hnm, hts, hO, hS, hP, hl, hR⟩ := id hC
  refine W_run hp hC (va_runSN (As := as.map (em G)) (rest := rest.map (em G)) ⟨hx, hb, hml, hown, hts⟩ hM ⟨va_cnB n hts (lw_gg w4) rfl rfl rfl (hO.2.2.2.1 _ w1) (hts _ (lw_in w3 rfl)) w5 ⟨by show d2 + 1 ≤ R.frames; omega, by show 8 + (nL2 + 11) + 40 * d2 ≤ R.locals; omega⟩, hts _ (lw_in w2 rfl), trivial⟩ ⟨PM.blind, hC.pre as⟩ rfl (by simpa using hn) hl.1 (by rw [hst, List.map_append, List.map_reverse]) (lv_room (by rw [em_sum]; exact hsum)) hd ⟨by omega, by omega⟩) k
theorem P_callI {G : GX} {own nm : String} {cc : ByteArray} {nL : Nat} {ret : Option FieldType} {d kc ks : Nat} {Q : Option Value → Shp → Mem → Prop} {pc pc' : Nat} {ls : List (Option Value)} {rest : List Value} {S : Shp} {I : Mem} {idx n : Nat} {y : MethodName} {cc2 : ByteArray} {nL2 d2 mc ms : Nat} {as : List Value} {Q' : Option Value → Shp → Mem → Prop} {st : List Value} {b : Nat} (hd : decode cc pc = .ok (.invokespecial idx, 3)) (hp : pc + 3 = pc') (hw : LkI own idx y cc2 nL2 n) (hM : PM G y cc2 nL2 none d2 mc ms (.ref b :: as) S I Q') (hst : st = as.reverse ++ .ref b :: rest) (hd2 : d2 + 1 ≤ d) (hn : as.length = n) (hsum : (rest.map fun v => v.category).sum ≤ 8) (k : ∀ r S' I', Q' r S' I' → PW G own nm cc nL ret d kc ks Q pc' ls (r.toList ++ rest) S' I') : PW G own nm cc nL ret d (kc + mc) (ks + ms) Q pc ls st S I := by
  obtain ⟨w1, w2, w2b, w3, w4, w5, w6⟩ := hw
  intro p e R s m args below meth c0 H locs cells slots arr hC
  obtain ⟨hx, hb, hr, hml, hown, hlk, hnm, hts, hO, hS, hP, hl, hR⟩ := id hC
  refine W_run hp hC (va_runI (As := as.map (em G)) (b := gA G b) (rest := rest.map (em G)) ⟨hx, hb, hml, hown, hts⟩ hM ⟨callB_of n hts (lw_gg w4) rfl rfl rfl (hts _ (lw_in w3 rfl)) (hts _ (lw_in w1 rfl)) w5 ⟨by show d2 + 1 ≤ R.frames; omega, by show 8 + (nL2 + 11) + 40 * d2 ≤ R.locals; omega⟩, w2b, hts _ (lw_in w2 rfl)⟩ ⟨PM.blind, hC.pre (.ref b :: as)⟩ rfl (by simpa using hn) hl.1 (by rw [hst, List.map_append, List.map_reverse]; rfl) (lv_room (by rw [em_sum]; exact hsum)) hd ⟨by omega, by omega⟩) k
theorem P_callIN {G : GX} {own nm : String} {cc : ByteArray} {nL : Nat} {ret : Option FieldType} {d kc ks : Nat} {Q : Option Value → Shp → Mem → Prop} {pc pc' : Nat} {ls : List (Option Value)} {rest : List Value} {S : Shp} {I : Mem} {idx n : Nat} {y : MethodName} {cc2 : ByteArray} {nL2 d2 mc ms : Nat} {as : List Value} {Q' : Option Value → Shp → Mem → Prop} {st : List Value} {b : Nat} (hd : decode cc pc = .ok (.invokespecial idx, 3)) (hp : pc + 3 = pc') (hw : LkIN own idx y cc2 nL2 n) (hM : PM G y cc2 nL2 none d2 mc ms (.ref b :: as) S I Q') (hst : st = as.reverse ++ .ref b :: rest) (hd2 : d2 + 1 ≤ d) (hn : as.length = n) (hsum : (rest.map fun v => v.category).sum ≤ 8) (k : ∀ r S' I', Q' r S' I' → PW G own nm cc nL ret d kc ks Q pc' ls (r.toList ++ rest) S' I') : PW G own nm cc nL ret d (kc + mc) (ks + ms) Q pc ls st S I := by
  obtain ⟨⟨host, w1⟩, w2, w2b, w3, w4, w5, w6⟩ := hw
  intro p e R s m args below meth c0 H locs cells slots arr hC
  obtain ⟨hx, hb, hr, hml, hown, hlk, hnm, hts, hO, hS, hP, hl, hR⟩ := id hC
  refine W_run hp hC (va_runIN (As := as.map (em G)) (b := gA G b) (rest := rest.map (em G)) ⟨hx, hb, hml, hown, hts⟩ hM ⟨va_cnB n hts (lw_gg w4) rfl rfl rfl (hO.2.2.2.1 _ w1) (hts _ (lw_in w3 rfl)) w5 ⟨by show d2 + 1 ≤ R.frames; omega, by show 8 + (nL2 + 11) + 40 * d2 ≤ R.locals; omega⟩, w2b, hts _ (lw_in w2 rfl)⟩ ⟨PM.blind, hC.pre (.ref b :: as)⟩ rfl (by simpa using hn) hl.1 (by rw [hst, List.map_append, List.map_reverse]; rfl) (lv_room (by rw [em_sum]; exact hsum)) hd ⟨by omega, by omega⟩) k
theorem P_callV {G : GX} {own nm : String} {cc : ByteArray} {nL : Nat} {ret : Option FieldType} {d kc ks : Nat} {Q : Option Value → Shp → Mem → Prop} {pc pc' : Nat} {ls : List (Option Value)} {rest : List Value} {S : Shp} {I : Mem} {idx n : Nat} {y : MethodName} {cc2 : ByteArray} {nL2 d2 mc ms : Nat} {as : List Value} {Q' : Option Value → Shp → Mem → Prop} {st : List Value} {ret2 : Option FieldType} {b ci z : Nat} (hd : decode cc pc = .ok (.invokevirtual idx, 3)) (hp : pc + 3 = pc') (hw : LkV own idx y cc2 nL2 ret2 n ci) (hbn : b < S.1) (hbt : S.2.1 b = (ci, z)) (hM : PM G y cc2 nL2 ret2 d2 mc ms (.ref b :: as) S I Q') (hst : st = as.reverse ++ .ref b :: rest) (hd2 : d2 + 1 ≤ d) (hn : as.length = n) (hsum : (rest.map fun v => v.category).sum ≤ 8) (k : ∀ r S' I', Q' r S' I' → PW G own nm cc nL ret d kc ks Q pc' ls (r.toList ++ rest) S' I') : PW G own nm cc nL ret d (kc + mc) (ks + ms) Q pc ls st S I := by
  obtain ⟨w1, w2, w2b, w3, w4, w5, w6, w7, T, N, w8⟩ := hw
  intro p e R s m args below meth c0 H locs cells slots arr hC
  obtain ⟨hx, hb, hr, hml, hown, hlk, hnm, hts, hO, hS, hP, hl, hR⟩ := id hC
  have he : (wsO G S I)[b]? = some (gB G + b, .inr (ci, (List.range (nFl ci)).map (fldO G ci (S.2.2 b) (I b)))) := by rw [wsO_at hbn, hbt, cellO_obj w7]
  have hrec := va_recv hO.1 hP.2.2 (ci := ci) w8 he
  rw [← gA_lt (G := G) hbn hP.2.1] at hrec
  refine W_run hp hC (va_runV (As := as.map (em G)) (b := gA G b) (rest := rest.map (em G)) ⟨hx, hb, hml, hown, hts⟩ hM ⟨callB_of n hts (lw_gg w4) rfl rfl rfl (hts _ (lw_in w3 rfl)) (hts _ (lw_in w1 rfl)) w5 ⟨by show d2 + 1 ≤ R.frames; omega, by show 8 + (nL2 + 11) + 40 * d2 ≤ R.locals; omega⟩, hts _ (lw_in w2 rfl), hts _ (lw_in w2b rfl)⟩ ⟨PM.blind, hrec, hC.pre (.ref b :: as)⟩ rfl (by simpa using hn) hl.1 (by rw [hst, List.map_append, List.map_reverse]; rfl) (lv_room (by rw [em_sum]; exact hsum)) hd ⟨by omega, by omega⟩) k
theorem P_callX {G : GX} {own nm : String} {cc : ByteArray} {nL : Nat} {ret : Option FieldType} {d kc ks : Nat} {Q : Option Value → Shp → Mem → Prop} {pc pc' : Nat} {ls : List (Option Value)} {rest : List Value} {S : Shp} {I : Mem} {idx n : Nat} {y : MethodName} {cc2 : ByteArray} {nL2 d2 mc ms : Nat} {as : List Value} {Q' : Option Value → Shp → Mem → Prop} {st : List Value} {ret2 : Option FieldType} {j : Nat} (hd : decode cc pc = .ok (.invokevirtual idx, 3)) (hp : pc + 3 = pc') (hw : Cond.methodLink own idx y ∈ lw_tbl ∧ Cond.instanceMethod y ∈ lw_tbl ∧ Cond.selects "java/lang/String" y y ∈ lw_tbl ∧ Cond.initialized y.cls ∈ lw_tbl ∧ Cond.code y cc2 nL2 ret2 ∈ lw_tbl ∧ okY y n ∧ nL2 ≤ 21) (hj : j < 6) (hM : PM G y cc2 nL2 ret2 d2 mc ms (.ref (1000002 + j) :: as) S I Q') (hst : st = as.reverse ++ .ref (1000002 + j) :: rest) (hd2 : d2 + 1 ≤ d) (hn : as.length = n) (hsum : (rest.map fun v => v.category).sum ≤ 8) (k : ∀ r S' I', Q' r S' I' → PW G own nm cc nL ret d kc ks Q pc' ls (r.toList ++ rest) S' I') : PW G own nm cc nL ret d (kc + mc) (ks + ms) Q pc ls st S I := by
  obtain ⟨w1, w2, w2b, w3, w4, w5, w6⟩ := hw
  intro p e R s m args below meth c0 H locs cells slots arr hC
  obtain ⟨hx, hb, hr, hml, hown, hlk, hnm, hts, hO, hS, hP, hl, hR⟩ := id hC
  have e0 : gA G (1000002 + j) = gXt G (2 + j) := by unfold gA; rw [if_neg (by omega), show 1000002 + j - 1000000 = 2 + j by omega]
  have hrec := vk_recv hO.2.2.1.2.2.2.2.2.1 hj hS
  have hrec : ∃ cell : Cell, H[gA G (1000002 + j)]? = some cell ∧ cell.vm.isStatics = false ∧ s.vm.findClass "java/lang/String" = some cell.cls := by rw [e0]; exact hrec
  refine W_run hp hC (va_runV (C := "java/lang/String") (As := as.map (em G)) (b := gA G (1000002 + j)) (rest := rest.map (em G)) ⟨hx, hb, hml, hown, hts⟩ hM ⟨callB_of n hts (lw_gg w4) rfl rfl rfl (hts _ (lw_in w3 rfl)) (hts _ (lw_in w1 rfl)) w5 ⟨by show d2 + 1 ≤ R.frames; omega, by show 8 + (nL2 + 11) + 40 * d2 ≤ R.locals; omega⟩, hts _ (lw_in w2 rfl), hts _ (lw_in w2b rfl)⟩ ⟨PM.blind, hrec, hC.pre (.ref (1000002 + j) :: as)⟩ rfl (by simpa using hn) hl.1 (by rw [hst, List.map_append, List.map_reverse]; rfl) (lv_room (by rw [em_sum]; exact hsum)) hd ⟨by omega, by omega⟩) k
theorem P_callS0 {G : GX} {own nm : String} {cc : ByteArray} {nL : Nat} {ret : Option FieldType} {d kc ks : Nat} {Q : Option Value → Shp → Mem → Prop} {pc pc' : Nat} {ls : List (Option Value)} {rest : List Value} {S : Shp} {I : Mem} {idx : Nat} {y : MethodName} {cc2 : ByteArray} {nL2 d2 mc ms : Nat} {Q' : Option Value → Shp → Mem → Prop} {ret2 : Option FieldType}  (hd : decode cc pc = .ok (.invokestatic idx, 3)) (hp : pc + 3 = pc') (hw : LkS own idx y cc2 nL2 ret2 0) (hM : PM G y cc2 nL2 ret2 d2 mc ms [] S I Q') (hd2 : d2 + 1 ≤ d) (hsum : (rest.map fun v => v.category).sum ≤ 8) (k : ∀ r S' I', Q' r S' I' → PW G own nm cc nL ret d kc ks Q pc' ls (r.toList ++ rest) S' I') : PW G own nm cc nL ret d (kc + mc) (ks + ms) Q pc ls (rest) S I := P_callS (as := []) hd hp hw hM rfl hd2 rfl hsum k
theorem P_callS1 {G : GX} {own nm : String} {cc : ByteArray} {nL : Nat} {ret : Option FieldType} {d kc ks : Nat} {Q : Option Value → Shp → Mem → Prop} {pc pc' : Nat} {ls : List (Option Value)} {rest : List Value} {S : Shp} {I : Mem} {idx : Nat} {y : MethodName} {cc2 : ByteArray} {nL2 d2 mc ms : Nat} {Q' : Option Value → Shp → Mem → Prop} {ret2 : Option FieldType} {v1 : Value} (hd : decode cc pc = .ok (.invokestatic idx, 3)) (hp : pc + 3 = pc') (hw : LkS own idx y cc2 nL2 ret2 1) (hM : PM G y cc2 nL2 ret2 d2 mc ms [v1] S I Q') (hd2 : d2 + 1 ≤ d) (hsum : (rest.map fun v => v.category).sum ≤ 8) (k : ∀ r S' I', Q' r S' I' → PW G own nm cc nL ret d kc ks Q pc' ls (r.toList ++ rest) S' I') : PW G own nm cc nL ret d (kc + mc) (ks + ms) Q pc ls (v1 :: rest) S I := P_callS (as := [v1]) hd hp hw hM rfl hd2 rfl hsum k
theorem P_callS2 {G : GX} {own nm : String} {cc : ByteArray} {nL : Nat} {ret : Option FieldType} {d kc ks : Nat} {Q : Option Value → Shp → Mem → Prop} {pc pc' : Nat} {ls : List (Option Value)} {rest : List Value} {S : Shp} {I : Mem} {idx : Nat} {y : MethodName} {cc2 : ByteArray} {nL2 d2 mc ms : Nat} {Q' : Option Value → Shp → Mem → Prop} {ret2 : Option FieldType} {v1 v2 : Value} (hd : decode cc pc = .ok (.invokestatic idx, 3)) (hp : pc + 3 = pc') (hw : LkS own idx y cc2 nL2 ret2 2) (hM : PM G y cc2 nL2 ret2 d2 mc ms [v1, v2] S I Q') (hd2 : d2 + 1 ≤ d) (hsum : (rest.map fun v => v.category).sum ≤ 8) (k : ∀ r S' I', Q' r S' I' → PW G own nm cc nL ret d kc ks Q pc' ls (r.toList ++ rest) S' I') : PW G own nm cc nL ret d (kc + mc) (ks + ms) Q pc ls (v2 :: v1 :: rest) S I := P_callS (as := [v1, v2]) hd hp hw hM rfl hd2 rfl hsum k
theorem P_callS3 {G : GX} {own nm : String} {cc : ByteArray} {nL : Nat} {ret : Option FieldType} {d kc ks : Nat} {Q : Option Value → Shp → Mem → Prop} {pc pc' : Nat} {ls : List (Option Value)} {rest : List Value} {S : Shp} {I : Mem} {idx : Nat} {y : MethodName} {cc2 : ByteArray} {nL2 d2 mc ms : Nat} {Q' : Option Value → Shp → Mem → Prop} {ret2 : Option FieldType} {v1 v2 v3 : Value} (hd : decode cc pc = .ok (.invokestatic idx, 3)) (hp : pc + 3 = pc') (hw : LkS own idx y cc2 nL2 ret2 3) (hM : PM G y cc2 nL2 ret2 d2 mc ms [v1, v2, v3] S I Q') (hd2 : d2 + 1 ≤ d) (hsum : (rest.map fun v => v.category).sum ≤ 8) (k : ∀ r S' I', Q' r S' I' → PW G own nm cc nL ret d kc ks Q pc' ls (r.toList ++ rest) S' I') : PW G own nm cc nL ret d (kc + mc) (ks + ms) Q pc ls (v3 :: v2 :: v1 :: rest) S I := P_callS (as := [v1, v2, v3]) hd hp hw hM rfl hd2 rfl hsum k
theorem P_callS4 {G : GX} {own nm : String} {cc : ByteArray} {nL : Nat} {ret : Option FieldType} {d kc ks : Nat} {Q : Option Value → Shp → Mem → Prop} {pc pc' : Nat} {ls : List (Option Value)} {rest : List Value} {S : Shp} {I : Mem} {idx : Nat} {y : MethodName} {cc2 : ByteArray} {nL2 d2 mc ms : Nat} {Q' : Option Value → Shp → Mem → Prop} {ret2 : Option FieldType} {v1 v2 v3 v4 : Value} (hd : decode cc pc = .ok (.invokestatic idx, 3)) (hp : pc + 3 = pc') (hw : LkS own idx y cc2 nL2 ret2 4) (hM : PM G y cc2 nL2 ret2 d2 mc ms [v1, v2, v3, v4] S I Q') (hd2 : d2 + 1 ≤ d) (hsum : (rest.map fun v => v.category).sum ≤ 8) (k : ∀ r S' I', Q' r S' I' → PW G own nm cc nL ret d kc ks Q pc' ls (r.toList ++ rest) S' I') : PW G own nm cc nL ret d (kc + mc) (ks + ms) Q pc ls (v4 :: v3 :: v2 :: v1 :: rest) S I := P_callS (as := [v1, v2, v3, v4]) hd hp hw hM rfl hd2 rfl hsum k
theorem P_callS5 {G : GX} {own nm : String} {cc : ByteArray} {nL : Nat} {ret : Option FieldType} {d kc ks : Nat} {Q : Option Value → Shp → Mem → Prop} {pc pc' : Nat} {ls : List (Option Value)} {rest : List Value} {S : Shp} {I : Mem} {idx : Nat} {y : MethodName} {cc2 : ByteArray} {nL2 d2 mc ms : Nat} {Q' : Option Value → Shp → Mem → Prop} {ret2 : Option FieldType} {v1 v2 v3 v4 v5 : Value} (hd : decode cc pc = .ok (.invokestatic idx, 3)) (hp : pc + 3 = pc') (hw : LkS own idx y cc2 nL2 ret2 5) (hM : PM G y cc2 nL2 ret2 d2 mc ms [v1, v2, v3, v4, v5] S I Q') (hd2 : d2 + 1 ≤ d) (hsum : (rest.map fun v => v.category).sum ≤ 8) (k : ∀ r S' I', Q' r S' I' → PW G own nm cc nL ret d kc ks Q pc' ls (r.toList ++ rest) S' I') : PW G own nm cc nL ret d (kc + mc) (ks + ms) Q pc ls (v5 :: v4 :: v3 :: v2 :: v1 :: rest) S I := P_callS (as := [v1, v2, v3, v4, v5]) hd hp hw hM rfl hd2 rfl hsum k
theorem P_callSN0 {G : GX} {own nm : String} {cc : ByteArray} {nL : Nat} {ret : Option FieldType} {d kc ks : Nat} {Q : Option Value → Shp → Mem → Prop} {pc pc' : Nat} {ls : List (Option Value)} {rest : List Value} {S : Shp} {I : Mem} {idx : Nat} {y : MethodName} {cc2 : ByteArray} {nL2 d2 mc ms : Nat} {Q' : Option Value → Shp → Mem → Prop} {ret2 : Option FieldType}  (hd : decode cc pc = .ok (.invokestatic idx, 3)) (hp : pc + 3 = pc') (hw : LkSN own idx y cc2 nL2 ret2 0) (hM : PM G y cc2 nL2 ret2 d2 mc ms [] S I Q') (hd2 : d2 + 1 ≤ d) (hsum : (rest.map fun v => v.category).sum ≤ 8) (k : ∀ r S' I', Q' r S' I' → PW G own nm cc nL ret d kc ks Q pc' ls (r.toList ++ rest) S' I') : PW G own nm cc nL ret d (kc + mc) (ks + ms) Q pc ls (rest) S I := P_callSN (as := []) hd hp hw hM rfl hd2 rfl hsum k
theorem P_callSN1 {G : GX} {own nm : String} {cc : ByteArray} {nL : Nat} {ret : Option FieldType} {d kc ks : Nat} {Q : Option Value → Shp → Mem → Prop} {pc pc' : Nat} {ls : List (Option Value)} {rest : List Value} {S : Shp} {I : Mem} {idx : Nat} {y : MethodName} {cc2 : ByteArray} {nL2 d2 mc ms : Nat} {Q' : Option Value → Shp → Mem → Prop} {ret2 : Option FieldType} {v1 : Value} (hd : decode cc pc = .ok (.invokestatic idx, 3)) (hp : pc + 3 = pc') (hw : LkSN own idx y cc2 nL2 ret2 1) (hM : PM G y cc2 nL2 ret2 d2 mc ms [v1] S I Q') (hd2 : d2 + 1 ≤ d) (hsum : (rest.map fun v => v.category).sum ≤ 8) (k : ∀ r S' I', Q' r S' I' → PW G own nm cc nL ret d kc ks Q pc' ls (r.toList ++ rest) S' I') : PW G own nm cc nL ret d (kc + mc) (ks + ms) Q pc ls (v1 :: rest) S I := P_callSN (as := [v1]) hd hp hw hM rfl hd2 rfl hsum k
theorem P_callSN2 {G : GX} {own nm : String} {cc : ByteArray} {nL : Nat} {ret : Option FieldType} {d kc ks : Nat} {Q : Option Value → Shp → Mem → Prop} {pc pc' : Nat} {ls : List (Option Value)} {rest : List Value} {S : Shp} {I : Mem} {idx : Nat} {y : MethodName} {cc2 : ByteArray} {nL2 d2 mc ms : Nat} {Q' : Option Value → Shp → Mem → Prop} {ret2 : Option FieldType} {v1 v2 : Value} (hd : decode cc pc = .ok (.invokestatic idx, 3)) (hp : pc + 3 = pc') (hw : LkSN own idx y cc2 nL2 ret2 2) (hM : PM G y cc2 nL2 ret2 d2 mc ms [v1, v2] S I Q') (hd2 : d2 + 1 ≤ d) (hsum : (rest.map fun v => v.category).sum ≤ 8) (k : ∀ r S' I', Q' r S' I' → PW G own nm cc nL ret d kc ks Q pc' ls (r.toList ++ rest) S' I') : PW G own nm cc nL ret d (kc + mc) (ks + ms) Q pc ls (v2 :: v1 :: rest) S I := P_callSN (as := [v1, v2]) hd hp hw hM rfl hd2 rfl hsum k
theorem P_callSN3 {G : GX} {own nm : String} {cc : ByteArray} {nL : Nat} {ret : Option FieldType} {d kc ks : Nat} {Q : Option Value → Shp → Mem → Prop} {pc pc' : Nat} {ls : List (Option Value)} {rest : List Value} {S : Shp} {I : Mem} {idx : Nat} {y : MethodName} {cc2 : ByteArray} {nL2 d2 mc ms : Nat} {Q' : Option Value → Shp → Mem → Prop} {ret2 : Option FieldType} {v1 v2 v3 : Value} (hd : decode cc pc = .ok (.invokestatic idx, 3)) (hp : pc + 3 = pc') (hw : LkSN own idx y cc2 nL2 ret2 3) (hM : PM G y cc2 nL2 ret2 d2 mc ms [v1, v2, v3] S I Q') (hd2 : d2 + 1 ≤ d) (hsum : (rest.map fun v => v.category).sum ≤ 8) (k : ∀ r S' I', Q' r S' I' → PW G own nm cc nL ret d kc ks Q pc' ls (r.toList ++ rest) S' I') : PW G own nm cc nL ret d (kc + mc) (ks + ms) Q pc ls (v3 :: v2 :: v1 :: rest) S I := P_callSN (as := [v1, v2, v3]) hd hp hw hM rfl hd2 rfl hsum k
theorem P_callSN4 {G : GX} {own nm : String} {cc : ByteArray} {nL : Nat} {ret : Option FieldType} {d kc ks : Nat} {Q : Option Value → Shp → Mem → Prop} {pc pc' : Nat} {ls : List (Option Value)} {rest : List Value} {S : Shp} {I : Mem} {idx : Nat} {y : MethodName} {cc2 : ByteArray} {nL2 d2 mc ms : Nat} {Q' : Option Value → Shp → Mem → Prop} {ret2 : Option FieldType} {v1 v2 v3 v4 : Value} (hd : decode cc pc = .ok (.invokestatic idx, 3)) (hp : pc + 3 = pc') (hw : LkSN own idx y cc2 nL2 ret2 4) (hM : PM G y cc2 nL2 ret2 d2 mc ms [v1, v2, v3, v4] S I Q') (hd2 : d2 + 1 ≤ d) (hsum : (rest.map fun v => v.category).sum ≤ 8) (k : ∀ r S' I', Q' r S' I' → PW G own nm cc nL ret d kc ks Q pc' ls (r.toList ++ rest) S' I') : PW G own nm cc nL ret d (kc + mc) (ks + ms) Q pc ls (v4 :: v3 :: v2 :: v1 :: rest) S I := P_callSN (as := [v1, v2, v3, v4]) hd hp hw hM rfl hd2 rfl hsum k
theorem P_callSN5 {G : GX} {own nm : String} {cc : ByteArray} {nL : Nat} {ret : Option FieldType} {d kc ks : Nat} {Q : Option Value → Shp → Mem → Prop} {pc pc' : Nat} {ls : List (Option Value)} {rest : List Value} {S : Shp} {I : Mem} {idx : Nat} {y : MethodName} {cc2 : ByteArray} {nL2 d2 mc ms : Nat} {Q' : Option Value → Shp → Mem → Prop} {ret2 : Option FieldType} {v1 v2 v3 v4 v5 : Value} (hd : decode cc pc = .ok (.invokestatic idx, 3)) (hp : pc + 3 = pc') (hw : LkSN own idx y cc2 nL2 ret2 5) (hM : PM G y cc2 nL2 ret2 d2 mc ms [v1, v2, v3, v4, v5] S I Q') (hd2 : d2 + 1 ≤ d) (hsum : (rest.map fun v => v.category).sum ≤ 8) (k : ∀ r S' I', Q' r S' I' → PW G own nm cc nL ret d kc ks Q pc' ls (r.toList ++ rest) S' I') : PW G own nm cc nL ret d (kc + mc) (ks + ms) Q pc ls (v5 :: v4 :: v3 :: v2 :: v1 :: rest) S I := P_callSN (as := [v1, v2, v3, v4, v5]) hd hp hw hM rfl hd2 rfl hsum k
theorem P_callI0 {G : GX} {own nm : String} {cc : ByteArray} {nL : Nat} {ret : Option FieldType} {d kc ks : Nat} {Q : Option Value → Shp → Mem → Prop} {pc pc' : Nat} {ls : List (Option Value)} {rest : List Value} {S : Shp} {I : Mem} {idx : Nat} {y : MethodName} {cc2 : ByteArray} {nL2 d2 mc ms : Nat} {Q' : Option Value → Shp → Mem → Prop} {b : Nat}  (hd : decode cc pc = .ok (.invokespecial idx, 3)) (hp : pc + 3 = pc') (hw : LkI own idx y cc2 nL2 0) (hM : PM G y cc2 nL2 none d2 mc ms (.ref b :: []) S I Q') (hd2 : d2 + 1 ≤ d) (hsum : (rest.map fun v => v.category).sum ≤ 8) (k : ∀ r S' I', Q' r S' I' → PW G own nm cc nL ret d kc ks Q pc' ls (r.toList ++ rest) S' I') : PW G own nm cc nL ret d (kc + mc) (ks + ms) Q pc ls (.ref b :: rest) S I := P_callI (as := []) hd hp hw hM rfl hd2 rfl hsum k
theorem P_callI1 {G : GX} {own nm : String} {cc : ByteArray} {nL : Nat} {ret : Option FieldType} {d kc ks : Nat} {Q : Option Value → Shp → Mem → Prop} {pc pc' : Nat} {ls : List (Option Value)} {rest : List Value} {S : Shp} {I : Mem} {idx : Nat} {y : MethodName} {cc2 : ByteArray} {nL2 d2 mc ms : Nat} {Q' : Option Value → Shp → Mem → Prop} {b : Nat} {v1 : Value} (hd : decode cc pc = .ok (.invokespecial idx, 3)) (hp : pc + 3 = pc') (hw : LkI own idx y cc2 nL2 1) (hM : PM G y cc2 nL2 none d2 mc ms (.ref b :: [v1]) S I Q') (hd2 : d2 + 1 ≤ d) (hsum : (rest.map fun v => v.category).sum ≤ 8) (k : ∀ r S' I', Q' r S' I' → PW G own nm cc nL ret d kc ks Q pc' ls (r.toList ++ rest) S' I') : PW G own nm cc nL ret d (kc + mc) (ks + ms) Q pc ls (v1 :: .ref b :: rest) S I := P_callI (as := [v1]) hd hp hw hM rfl hd2 rfl hsum k
theorem P_callI2 {G : GX} {own nm : String} {cc : ByteArray} {nL : Nat} {ret : Option FieldType} {d kc ks : Nat} {Q : Option Value → Shp → Mem → Prop} {pc pc' : Nat} {ls : List (Option Value)} {rest : List Value} {S : Shp} {I : Mem} {idx : Nat} {y : MethodName} {cc2 : ByteArray} {nL2 d2 mc ms : Nat} {Q' : Option Value → Shp → Mem → Prop} {b : Nat} {v1 v2 : Value} (hd : decode cc pc = .ok (.invokespecial idx, 3)) (hp : pc + 3 = pc') (hw : LkI own idx y cc2 nL2 2) (hM : PM G y cc2 nL2 none d2 mc ms (.ref b :: [v1, v2]) S I Q') (hd2 : d2 + 1 ≤ d) (hsum : (rest.map fun v => v.category).sum ≤ 8) (k : ∀ r S' I', Q' r S' I' → PW G own nm cc nL ret d kc ks Q pc' ls (r.toList ++ rest) S' I') : PW G own nm cc nL ret d (kc + mc) (ks + ms) Q pc ls (v2 :: v1 :: .ref b :: rest) S I := P_callI (as := [v1, v2]) hd hp hw hM rfl hd2 rfl hsum k
theorem P_callI3 {G : GX} {own nm : String} {cc : ByteArray} {nL : Nat} {ret : Option FieldType} {d kc ks : Nat} {Q : Option Value → Shp → Mem → Prop} {pc pc' : Nat} {ls : List (Option Value)} {rest : List Value} {S : Shp} {I : Mem} {idx : Nat} {y : MethodName} {cc2 : ByteArray} {nL2 d2 mc ms : Nat} {Q' : Option Value → Shp → Mem → Prop} {b : Nat} {v1 v2 v3 : Value} (hd : decode cc pc = .ok (.invokespecial idx, 3)) (hp : pc + 3 = pc') (hw : LkI own idx y cc2 nL2 3) (hM : PM G y cc2 nL2 none d2 mc ms (.ref b :: [v1, v2, v3]) S I Q') (hd2 : d2 + 1 ≤ d) (hsum : (rest.map fun v => v.category).sum ≤ 8) (k : ∀ r S' I', Q' r S' I' → PW G own nm cc nL ret d kc ks Q pc' ls (r.toList ++ rest) S' I') : PW G own nm cc nL ret d (kc + mc) (ks + ms) Q pc ls (v3 :: v2 :: v1 :: .ref b :: rest) S I := P_callI (as := [v1, v2, v3]) hd hp hw hM rfl hd2 rfl hsum k
theorem P_callI4 {G : GX} {own nm : String} {cc : ByteArray} {nL : Nat} {ret : Option FieldType} {d kc ks : Nat} {Q : Option Value → Shp → Mem → Prop} {pc pc' : Nat} {ls : List (Option Value)} {rest : List Value} {S : Shp} {I : Mem} {idx : Nat} {y : MethodName} {cc2 : ByteArray} {nL2 d2 mc ms : Nat} {Q' : Option Value → Shp → Mem → Prop} {b : Nat} {v1 v2 v3 v4 : Value} (hd : decode cc pc = .ok (.invokespecial idx, 3)) (hp : pc + 3 = pc') (hw : LkI own idx y cc2 nL2 4) (hM : PM G y cc2 nL2 none d2 mc ms (.ref b :: [v1, v2, v3, v4]) S I Q') (hd2 : d2 + 1 ≤ d) (hsum : (rest.map fun v => v.category).sum ≤ 8) (k : ∀ r S' I', Q' r S' I' → PW G own nm cc nL ret d kc ks Q pc' ls (r.toList ++ rest) S' I') : PW G own nm cc nL ret d (kc + mc) (ks + ms) Q pc ls (v4 :: v3 :: v2 :: v1 :: .ref b :: rest) S I := P_callI (as := [v1, v2, v3, v4]) hd hp hw hM rfl hd2 rfl hsum k
theorem P_callI5 {G : GX} {own nm : String} {cc : ByteArray} {nL : Nat} {ret : Option FieldType} {d kc ks : Nat} {Q : Option Value → Shp → Mem → Prop} {pc pc' : Nat} {ls : List (Option Value)} {rest : List Value} {S : Shp} {I : Mem} {idx : Nat} {y : MethodName} {cc2 : ByteArray} {nL2 d2 mc ms : Nat} {Q' : Option Value → Shp → Mem → Prop} {b : Nat} {v1 v2 v3 v4 v5 : Value} (hd : decode cc pc = .ok (.invokespecial idx, 3)) (hp : pc + 3 = pc') (hw : LkI own idx y cc2 nL2 5) (hM : PM G y cc2 nL2 none d2 mc ms (.ref b :: [v1, v2, v3, v4, v5]) S I Q') (hd2 : d2 + 1 ≤ d) (hsum : (rest.map fun v => v.category).sum ≤ 8) (k : ∀ r S' I', Q' r S' I' → PW G own nm cc nL ret d kc ks Q pc' ls (r.toList ++ rest) S' I') : PW G own nm cc nL ret d (kc + mc) (ks + ms) Q pc ls (v5 :: v4 :: v3 :: v2 :: v1 :: .ref b :: rest) S I := P_callI (as := [v1, v2, v3, v4, v5]) hd hp hw hM rfl hd2 rfl hsum k
theorem P_callIN0 {G : GX} {own nm : String} {cc : ByteArray} {nL : Nat} {ret : Option FieldType} {d kc ks : Nat} {Q : Option Value → Shp → Mem → Prop} {pc pc' : Nat} {ls : List (Option Value)} {rest : List Value} {S : Shp} {I : Mem} {idx : Nat} {y : MethodName} {cc2 : ByteArray} {nL2 d2 mc ms : Nat} {Q' : Option Value → Shp → Mem → Prop} {b : Nat}  (hd : decode cc pc = .ok (.invokespecial idx, 3)) (hp : pc + 3 = pc') (hw : LkIN own idx y cc2 nL2 0) (hM : PM G y cc2 nL2 none d2 mc ms (.ref b :: []) S I Q') (hd2 : d2 + 1 ≤ d) (hsum : (rest.map fun v => v.category).sum ≤ 8) (k : ∀ r S' I', Q' r S' I' → PW G own nm cc nL ret d kc ks Q pc' ls (r.toList ++ rest) S' I') : PW G own nm cc nL ret d (kc + mc) (ks + ms) Q pc ls (.ref b :: rest) S I := P_callIN (as := []) hd hp hw hM rfl hd2 rfl hsum k
theorem P_callIN1 {G : GX} {own nm : String} {cc : ByteArray} {nL : Nat} {ret : Option FieldType} {d kc ks : Nat} {Q : Option Value → Shp → Mem → Prop} {pc pc' : Nat} {ls : List (Option Value)} {rest : List Value} {S : Shp} {I : Mem} {idx : Nat} {y : MethodName} {cc2 : ByteArray} {nL2 d2 mc ms : Nat} {Q' : Option Value → Shp → Mem → Prop} {b : Nat} {v1 : Value} (hd : decode cc pc = .ok (.invokespecial idx, 3)) (hp : pc + 3 = pc') (hw : LkIN own idx y cc2 nL2 1) (hM : PM G y cc2 nL2 none d2 mc ms (.ref b :: [v1]) S I Q') (hd2 : d2 + 1 ≤ d) (hsum : (rest.map fun v => v.category).sum ≤ 8) (k : ∀ r S' I', Q' r S' I' → PW G own nm cc nL ret d kc ks Q pc' ls (r.toList ++ rest) S' I') : PW G own nm cc nL ret d (kc + mc) (ks + ms) Q pc ls (v1 :: .ref b :: rest) S I := P_callIN (as := [v1]) hd hp hw hM rfl hd2 rfl hsum k
theorem P_callIN2 {G : GX} {own nm : String} {cc : ByteArray} {nL : Nat} {ret : Option FieldType} {d kc ks : Nat} {Q : Option Value → Shp → Mem → Prop} {pc pc' : Nat} {ls : List (Option Value)} {rest : List Value} {S : Shp} {I : Mem} {idx : Nat} {y : MethodName} {cc2 : ByteArray} {nL2 d2 mc ms : Nat} {Q' : Option Value → Shp → Mem → Prop} {b : Nat} {v1 v2 : Value} (hd : decode cc pc = .ok (.invokespecial idx, 3)) (hp : pc + 3 = pc') (hw : LkIN own idx y cc2 nL2 2) (hM : PM G y cc2 nL2 none d2 mc ms (.ref b :: [v1, v2]) S I Q') (hd2 : d2 + 1 ≤ d) (hsum : (rest.map fun v => v.category).sum ≤ 8) (k : ∀ r S' I', Q' r S' I' → PW G own nm cc nL ret d kc ks Q pc' ls (r.toList ++ rest) S' I') : PW G own nm cc nL ret d (kc + mc) (ks + ms) Q pc ls (v2 :: v1 :: .ref b :: rest) S I := P_callIN (as := [v1, v2]) hd hp hw hM rfl hd2 rfl hsum k
theorem P_callIN3 {G : GX} {own nm : String} {cc : ByteArray} {nL : Nat} {ret : Option FieldType} {d kc ks : Nat} {Q : Option Value → Shp → Mem → Prop} {pc pc' : Nat} {ls : List (Option Value)} {rest : List Value} {S : Shp} {I : Mem} {idx : Nat} {y : MethodName} {cc2 : ByteArray} {nL2 d2 mc ms : Nat} {Q' : Option Value → Shp → Mem → Prop} {b : Nat} {v1 v2 v3 : Value} (hd : decode cc pc = .ok (.invokespecial idx, 3)) (hp : pc + 3 = pc') (hw : LkIN own idx y cc2 nL2 3) (hM : PM G y cc2 nL2 none d2 mc ms (.ref b :: [v1, v2, v3]) S I Q') (hd2 : d2 + 1 ≤ d) (hsum : (rest.map fun v => v.category).sum ≤ 8) (k : ∀ r S' I', Q' r S' I' → PW G own nm cc nL ret d kc ks Q pc' ls (r.toList ++ rest) S' I') : PW G own nm cc nL ret d (kc + mc) (ks + ms) Q pc ls (v3 :: v2 :: v1 :: .ref b :: rest) S I := P_callIN (as := [v1, v2, v3]) hd hp hw hM rfl hd2 rfl hsum k
theorem P_callIN4 {G : GX} {own nm : String} {cc : ByteArray} {nL : Nat} {ret : Option FieldType} {d kc ks : Nat} {Q : Option Value → Shp → Mem → Prop} {pc pc' : Nat} {ls : List (Option Value)} {rest : List Value} {S : Shp} {I : Mem} {idx : Nat} {y : MethodName} {cc2 : ByteArray} {nL2 d2 mc ms : Nat} {Q' : Option Value → Shp → Mem → Prop} {b : Nat} {v1 v2 v3 v4 : Value} (hd : decode cc pc = .ok (.invokespecial idx, 3)) (hp : pc + 3 = pc') (hw : LkIN own idx y cc2 nL2 4) (hM : PM G y cc2 nL2 none d2 mc ms (.ref b :: [v1, v2, v3, v4]) S I Q') (hd2 : d2 + 1 ≤ d) (hsum : (rest.map fun v => v.category).sum ≤ 8) (k : ∀ r S' I', Q' r S' I' → PW G own nm cc nL ret d kc ks Q pc' ls (r.toList ++ rest) S' I') : PW G own nm cc nL ret d (kc + mc) (ks + ms) Q pc ls (v4 :: v3 :: v2 :: v1 :: .ref b :: rest) S I := P_callIN (as := [v1, v2, v3, v4]) hd hp hw hM rfl hd2 rfl hsum k
theorem P_callIN5 {G : GX} {own nm : String} {cc : ByteArray} {nL : Nat} {ret : Option FieldType} {d kc ks : Nat} {Q : Option Value → Shp → Mem → Prop} {pc pc' : Nat} {ls : List (Option Value)} {rest : List Value} {S : Shp} {I : Mem} {idx : Nat} {y : MethodName} {cc2 : ByteArray} {nL2 d2 mc ms : Nat} {Q' : Option Value → Shp → Mem → Prop} {b : Nat} {v1 v2 v3 v4 v5 : Value} (hd : decode cc pc = .ok (.invokespecial idx, 3)) (hp : pc + 3 = pc') (hw : LkIN own idx y cc2 nL2 5) (hM : PM G y cc2 nL2 none d2 mc ms (.ref b :: [v1, v2, v3, v4, v5]) S I Q') (hd2 : d2 + 1 ≤ d) (hsum : (rest.map fun v => v.category).sum ≤ 8) (k : ∀ r S' I', Q' r S' I' → PW G own nm cc nL ret d kc ks Q pc' ls (r.toList ++ rest) S' I') : PW G own nm cc nL ret d (kc + mc) (ks + ms) Q pc ls (v5 :: v4 :: v3 :: v2 :: v1 :: .ref b :: rest) S I := P_callIN (as := [v1, v2, v3, v4, v5]) hd hp hw hM rfl hd2 rfl hsum k
theorem P_callV0 {G : GX} {own nm : String} {cc : ByteArray} {nL : Nat} {ret : Option FieldType} {d kc ks : Nat} {Q : Option Value → Shp → Mem → Prop} {pc pc' : Nat} {ls : List (Option Value)} {rest : List Value} {S : Shp} {I : Mem} {idx : Nat} {y : MethodName} {cc2 : ByteArray} {nL2 d2 mc ms : Nat} {Q' : Option Value → Shp → Mem → Prop} {b : Nat} {ci z : Nat} {ret2 : Option FieldType}  (hd : decode cc pc = .ok (.invokevirtual idx, 3)) (hp : pc + 3 = pc') (hw : LkV own idx y cc2 nL2 ret2 0 ci) (hbn : b < S.1) (hbt : S.2.1 b = (ci, z)) (hM : PM G y cc2 nL2 ret2 d2 mc ms (.ref b :: []) S I Q') (hd2 : d2 + 1 ≤ d) (hsum : (rest.map fun v => v.category).sum ≤ 8) (k : ∀ r S' I', Q' r S' I' → PW G own nm cc nL ret d kc ks Q pc' ls (r.toList ++ rest) S' I') : PW G own nm cc nL ret d (kc + mc) (ks + ms) Q pc ls (.ref b :: rest) S I := P_callV (as := []) hd hp hw hbn hbt hM rfl hd2 rfl hsum k
theorem P_callV1 {G : GX} {own nm : String} {cc : ByteArray} {nL : Nat} {ret : Option FieldType} {d kc ks : Nat} {Q : Option Value → Shp → Mem → Prop} {pc pc' : Nat} {ls : List (Option Value)} {rest : List Value} {S : Shp} {I : Mem} {idx : Nat} {y : MethodName} {cc2 : ByteArray} {nL2 d2 mc ms : Nat} {Q' : Option Value → Shp → Mem → Prop} {b : Nat} {ci z : Nat} {ret2 : Option FieldType} {v1 : Value} (hd : decode cc pc = .ok (.invokevirtual idx, 3)) (hp : pc + 3 = pc') (hw : LkV own idx y cc2 nL2 ret2 1 ci) (hbn : b < S.1) (hbt : S.2.1 b = (ci, z)) (hM : PM G y cc2 nL2 ret2 d2 mc ms (.ref b :: [v1]) S I Q') (hd2 : d2 + 1 ≤ d) (hsum : (rest.map fun v => v.category).sum ≤ 8) (k : ∀ r S' I', Q' r S' I' → PW G own nm cc nL ret d kc ks Q pc' ls (r.toList ++ rest) S' I') : PW G own nm cc nL ret d (kc + mc) (ks + ms) Q pc ls (v1 :: .ref b :: rest) S I := P_callV (as := [v1]) hd hp hw hbn hbt hM rfl hd2 rfl hsum k
theorem P_callV2 {G : GX} {own nm : String} {cc : ByteArray} {nL : Nat} {ret : Option FieldType} {d kc ks : Nat} {Q : Option Value → Shp → Mem → Prop} {pc pc' : Nat} {ls : List (Option Value)} {rest : List Value} {S : Shp} {I : Mem} {idx : Nat} {y : MethodName} {cc2 : ByteArray} {nL2 d2 mc ms : Nat} {Q' : Option Value → Shp → Mem → Prop} {b : Nat} {ci z : Nat} {ret2 : Option FieldType} {v1 v2 : Value} (hd : decode cc pc = .ok (.invokevirtual idx, 3)) (hp : pc + 3 = pc') (hw : LkV own idx y cc2 nL2 ret2 2 ci) (hbn : b < S.1) (hbt : S.2.1 b = (ci, z)) (hM : PM G y cc2 nL2 ret2 d2 mc ms (.ref b :: [v1, v2]) S I Q') (hd2 : d2 + 1 ≤ d) (hsum : (rest.map fun v => v.category).sum ≤ 8) (k : ∀ r S' I', Q' r S' I' → PW G own nm cc nL ret d kc ks Q pc' ls (r.toList ++ rest) S' I') : PW G own nm cc nL ret d (kc + mc) (ks + ms) Q pc ls (v2 :: v1 :: .ref b :: rest) S I := P_callV (as := [v1, v2]) hd hp hw hbn hbt hM rfl hd2 rfl hsum k
theorem P_callV3 {G : GX} {own nm : String} {cc : ByteArray} {nL : Nat} {ret : Option FieldType} {d kc ks : Nat} {Q : Option Value → Shp → Mem → Prop} {pc pc' : Nat} {ls : List (Option Value)} {rest : List Value} {S : Shp} {I : Mem} {idx : Nat} {y : MethodName} {cc2 : ByteArray} {nL2 d2 mc ms : Nat} {Q' : Option Value → Shp → Mem → Prop} {b : Nat} {ci z : Nat} {ret2 : Option FieldType} {v1 v2 v3 : Value} (hd : decode cc pc = .ok (.invokevirtual idx, 3)) (hp : pc + 3 = pc') (hw : LkV own idx y cc2 nL2 ret2 3 ci) (hbn : b < S.1) (hbt : S.2.1 b = (ci, z)) (hM : PM G y cc2 nL2 ret2 d2 mc ms (.ref b :: [v1, v2, v3]) S I Q') (hd2 : d2 + 1 ≤ d) (hsum : (rest.map fun v => v.category).sum ≤ 8) (k : ∀ r S' I', Q' r S' I' → PW G own nm cc nL ret d kc ks Q pc' ls (r.toList ++ rest) S' I') : PW G own nm cc nL ret d (kc + mc) (ks + ms) Q pc ls (v3 :: v2 :: v1 :: .ref b :: rest) S I := P_callV (as := [v1, v2, v3]) hd hp hw hbn hbt hM rfl hd2 rfl hsum k
theorem P_callV4 {G : GX} {own nm : String} {cc : ByteArray} {nL : Nat} {ret : Option FieldType} {d kc ks : Nat} {Q : Option Value → Shp → Mem → Prop} {pc pc' : Nat} {ls : List (Option Value)} {rest : List Value} {S : Shp} {I : Mem} {idx : Nat} {y : MethodName} {cc2 : ByteArray} {nL2 d2 mc ms : Nat} {Q' : Option Value → Shp → Mem → Prop} {b : Nat} {ci z : Nat} {ret2 : Option FieldType} {v1 v2 v3 v4 : Value} (hd : decode cc pc = .ok (.invokevirtual idx, 3)) (hp : pc + 3 = pc') (hw : LkV own idx y cc2 nL2 ret2 4 ci) (hbn : b < S.1) (hbt : S.2.1 b = (ci, z)) (hM : PM G y cc2 nL2 ret2 d2 mc ms (.ref b :: [v1, v2, v3, v4]) S I Q') (hd2 : d2 + 1 ≤ d) (hsum : (rest.map fun v => v.category).sum ≤ 8) (k : ∀ r S' I', Q' r S' I' → PW G own nm cc nL ret d kc ks Q pc' ls (r.toList ++ rest) S' I') : PW G own nm cc nL ret d (kc + mc) (ks + ms) Q pc ls (v4 :: v3 :: v2 :: v1 :: .ref b :: rest) S I := P_callV (as := [v1, v2, v3, v4]) hd hp hw hbn hbt hM rfl hd2 rfl hsum k
theorem P_callV5 {G : GX} {own nm : String} {cc : ByteArray} {nL : Nat} {ret : Option FieldType} {d kc ks : Nat} {Q : Option Value → Shp → Mem → Prop} {pc pc' : Nat} {ls : List (Option Value)} {rest : List Value} {S : Shp} {I : Mem} {idx : Nat} {y : MethodName} {cc2 : ByteArray} {nL2 d2 mc ms : Nat} {Q' : Option Value → Shp → Mem → Prop} {b : Nat} {ci z : Nat} {ret2 : Option FieldType} {v1 v2 v3 v4 v5 : Value} (hd : decode cc pc = .ok (.invokevirtual idx, 3)) (hp : pc + 3 = pc') (hw : LkV own idx y cc2 nL2 ret2 5 ci) (hbn : b < S.1) (hbt : S.2.1 b = (ci, z)) (hM : PM G y cc2 nL2 ret2 d2 mc ms (.ref b :: [v1, v2, v3, v4, v5]) S I Q') (hd2 : d2 + 1 ≤ d) (hsum : (rest.map fun v => v.category).sum ≤ 8) (k : ∀ r S' I', Q' r S' I' → PW G own nm cc nL ret d kc ks Q pc' ls (r.toList ++ rest) S' I') : PW G own nm cc nL ret d (kc + mc) (ks + ms) Q pc ls (v5 :: v4 :: v3 :: v2 :: v1 :: .ref b :: rest) S I := P_callV (as := [v1, v2, v3, v4, v5]) hd hp hw hbn hbt hM rfl hd2 rfl hsum k
theorem P_objInit {G : GX} {own nm : String} {cc : ByteArray} {nL : Nat} {ret : Option FieldType} {d kc ks : Nat} {Q : Option Value → Shp → Mem → Prop} {pc pc' : Nat} {ls : List (Option Value)} {rest : List Value} {S : Shp} {I : Mem} {idx a : Nat} (hd : decode cc pc = .ok (.invokespecial idx, 3)) (hp : pc + 3 = pc') (hw : Cond.methodLink own idx Lib.objectInit ∈ lw_tbl ∧ Cond.instanceMethod Lib.objectInit ∈ lw_tbl ∧ Cond.code Lib.objectInit ⟨#[0xb1]⟩ 1 none ∈ lw_tbl) (hd1 : 1 ≤ d) (hsum : (rest.map fun v => v.category).sum ≤ 8) (k : PW G own nm cc nL ret d kc ks Q pc' ls rest S I) : PW G own nm cc nL ret d kc ks Q pc ls (.ref a :: rest) S I := by
  subst hp
  intro p e R s m args below meth c0 H locs cells slots arr hC
  obtain ⟨hx, hb, hr, hml, hown, hlk, hnm, hts, hO, hS, hP, hl, hR⟩ := id hC
  have hk := k p e R s m args below meth c0 H locs cells slots arr hC
  refine W.objInit hx hb hown (hts _ (lw_in hw.1 rfl)) (hts _ (lw_in hw.2.1 rfl)) (hts _ (lw_in hw.2.2 rfl)) rfl (by rw [hml]; exact hl.1) rfl hd (by omega) (by
    have := em_sum G rest
    show 2 * 0 + ((rest.map (em G)).map fun v => v.category).sum + 12 ≤ R.locals
    omega) hk
theorem P_max {G : GX} {own nm : String} {cc : ByteArray} {nL : Nat} {ret : Option FieldType} {d kc ks : Nat} {Q : Option Value → Shp → Mem → Prop} {pc pc' : Nat} {ls : List (Option Value)} {rest : List Value} {S : Shp} {I : Mem} {idx : Nat} {x y : Int32} (hd : decode cc pc = .ok (.invokestatic idx, 3)) (hp : pc + 3 = pc') (hw : Cond.methodLink own idx Lib.Math.max.name ∈ lw_tbl ∧ Cond.static Lib.Math.max.name ∈ lw_tbl ∧ Cond.initialized "java/lang/Math" ∈ lw_tbl ∧ Cond.code Lib.Math.max.name Lib.Math.max.code 2 (some .int) ∈ lw_tbl) (hd1 : 1 ≤ d) (hsum : (rest.map fun v => v.category).sum ≤ 8) (k : PW G own nm cc nL ret d kc ks Q pc' ls (.int (if x < y then y else x) :: rest) S I) : PW G own nm cc nL ret d kc ks Q pc ls (.int y :: .int x :: rest) S I := by
  subst hp
  intro p e R s m args below meth c0 H locs cells slots arr hC
  obtain ⟨hx, hb, hr, hml, hown, hlk, hnm, hts, hO, hS, hP, hl, hR⟩ := id hC
  have hk := k p e R s m args below meth c0 H locs cells slots arr hC
  refine va_mmax hx hb (by rw [hml]; exact hl.1.symm) hown (hts _ (lw_in hw.1 rfl)) (hts _ (lw_in hw.2.1 rfl)) (hts _ (lw_in hw.2.2.1 rfl)) (hts _ (lw_in hw.2.2.2 rfl)) (by omega) (by
    have := em_sum G rest
    omega) (by omega) (by omega) hd hk
theorem P_min {G : GX} {own nm : String} {cc : ByteArray} {nL : Nat} {ret : Option FieldType} {d kc ks : Nat} {Q : Option Value → Shp → Mem → Prop} {pc pc' : Nat} {ls : List (Option Value)} {rest : List Value} {S : Shp} {I : Mem} {idx : Nat} {x y : Int32} (hd : decode cc pc = .ok (.invokestatic idx, 3)) (hp : pc + 3 = pc') (hw : Cond.methodLink own idx Lib.Math.min.name ∈ lw_tbl ∧ Cond.static Lib.Math.min.name ∈ lw_tbl ∧ Cond.initialized "java/lang/Math" ∈ lw_tbl ∧ Cond.code Lib.Math.min.name Lib.Math.min.code 2 (some .int) ∈ lw_tbl) (hd1 : 1 ≤ d) (hsum : (rest.map fun v => v.category).sum ≤ 8) (k : PW G own nm cc nL ret d kc ks Q pc' ls (.int (if y < x then y else x) :: rest) S I) : PW G own nm cc nL ret d kc ks Q pc ls (.int y :: .int x :: rest) S I := by
  subst hp
  intro p e R s m args below meth c0 H locs cells slots arr hC
  obtain ⟨hx, hb, hr, hml, hown, hlk, hnm, hts, hO, hS, hP, hl, hR⟩ := id hC
  have hk := k p e R s m args below meth c0 H locs cells slots arr hC
  refine va_mmin hx hb (by rw [hml]; exact hl.1.symm) hown (hts _ (lw_in hw.1 rfl)) (hts _ (lw_in hw.2.1 rfl)) (hts _ (lw_in hw.2.2.1 rfl)) (hts _ (lw_in hw.2.2.2 rfl)) (by omega) (by
    have := em_sum G rest
    omega) (by omega) (by omega) hd hk
theorem P_abs {G : GX} {own nm : String} {cc : ByteArray} {nL : Nat} {ret : Option FieldType} {d kc ks : Nat} {Q : Option Value → Shp → Mem → Prop} {pc pc' : Nat} {ls : List (Option Value)} {rest : List Value} {S : Shp} {I : Mem} {idx : Nat} {x  : Int32} (hd : decode cc pc = .ok (.invokestatic idx, 3)) (hp : pc + 3 = pc') (hw : Cond.methodLink own idx Lib.Math.abs.name ∈ lw_tbl ∧ Cond.static Lib.Math.abs.name ∈ lw_tbl ∧ Cond.initialized "java/lang/Math" ∈ lw_tbl ∧ Cond.code Lib.Math.abs.name Lib.Math.abs.code 1 (some .int) ∈ lw_tbl) (hd1 : 1 ≤ d) (hsum : (rest.map fun v => v.category).sum ≤ 8) (k : PW G own nm cc nL ret d kc ks Q pc' ls (.int (if 0 ≤ x then x else 0 - x) :: rest) S I) : PW G own nm cc nL ret d kc ks Q pc ls (.int x :: rest) S I := by
  subst hp
  intro p e R s m args below meth c0 H locs cells slots arr hC
  obtain ⟨hx, hb, hr, hml, hown, hlk, hnm, hts, hO, hS, hP, hl, hR⟩ := id hC
  have hk := k p e R s m args below meth c0 H locs cells slots arr hC
  refine va_mabs hx hb (by rw [hml]; exact hl.1.symm) hown (hts _ (lw_in hw.1 rfl)) (hts _ (lw_in hw.2.1 rfl)) (hts _ (lw_in hw.2.2.1 rfl)) (hts _ (lw_in hw.2.2.2 rfl)) (by omega) (by
    have := em_sum G rest
    omega) (by omega) (by omega) hd hk
theorem gA_x {G : GX} (j : Nat) : gA G (1000000 + j) = gXt G j := by
  unfold gA
  rw [if_neg (by omega), show 1000000 + j - 1000000 = j by omega]
theorem P_sld {G : GX} {own nm : String} {cc : ByteArray} {nL : Nat} {ret : Option FieldType} {d kc ks : Nat} {Q : Option Value → Shp → Mem → Prop} {pc pc' : Nat} {ls : List (Option Value)} {rest : List Value} {S : Shp} {I : Mem} {i : Int32} {j : Nat} (hd : decode cc pc = .ok (.iaload, 1)) (hp : pc + 1 = pc') (hj : i = nI j) (hlt : j < gN G) (hn : gN G < 2 ^ 31) (k : PW G own nm cc nL ret d kc ks Q pc' ls (.int (gXs G j) :: rest) S I) : PW G own nm cc nL ret d kc ks Q pc ls (.int i :: .ref 1000000 :: rest) S I := by
  subst hp
  subst hj
  intro p e R s m args below meth c0 H locs cells slots arr hC
  obtain ⟨hx, hb, hr, hml, hown, hlk, hnm, hts, hO, hS, hP, hl, hR⟩ := id hC
  have hk := k p e R s m args below meth c0 H locs cells slots arr hC
  obtain ⟨⟨hX, hXl⟩, -⟩ := hO.2.2.1
  show W _ _ _ _ _ _ _ _ _ _ _ _ _ _ _ (F0 m pc arr (.int (nI j) :: .ref (gA G (1000000 + 0)) :: rest.map (em G)))
  rw [gA_x]
  refine va_sld hx hb hX (Nat.lt_of_lt_of_le hXl hO.2.1) (Nat.not_le.mpr hXl) hS (vp_in_nI hlt hn) hd ?_
  rw [nI_clamp (by omega)]
  exact hk
theorem P_slen {G : GX} {own nm : String} {cc : ByteArray} {nL : Nat} {ret : Option FieldType} {d kc ks : Nat} {Q : Option Value → Shp → Mem → Prop} {pc pc' : Nat} {ls : List (Option Value)} {rest : List Value} {S : Shp} {I : Mem} (hd : decode cc pc = .ok (.arraylength, 1)) (hp : pc + 1 = pc') (k : PW G own nm cc nL ret d kc ks Q pc' ls (.int (nI (gN G)) :: rest) S I) : PW G own nm cc nL ret d kc ks Q pc ls (.ref 1000000 :: rest) S I := by
  subst hp
  intro p e R s m args below meth c0 H locs cells slots arr hC
  obtain ⟨hx, hb, hr, hml, hown, hlk, hnm, hts, hO, hS, hP, hl, hR⟩ := id hC
  have hk := k p e R s m args below meth c0 H locs cells slots arr hC
  obtain ⟨⟨hX, hXl⟩, -⟩ := hO.2.2.1
  show W _ _ _ _ _ _ _ _ _ _ _ _ _ _ _ (F0 m pc arr (.ref (gA G (1000000 + 0)) :: rest.map (em G)))
  rw [gA_x]
  exact va_slen hx hb hX (Nat.lt_of_lt_of_le hXl hO.2.1) (Nat.not_le.mpr hXl) hS hd hk
theorem P_above {G : GX} {own nm : String} {cc : ByteArray} {nL : Nat} {ret : Option FieldType} {d kc ks : Nat} {Q : Option Value → Shp → Mem → Prop} {pc pc' : Nat} {ls : List (Option Value)} {rest : List Value} {S : Shp} {I : Mem} {idx : Nat} (hd : decode cc pc = .ok (.getstatic idx, 3)) (hp : pc + 3 = pc') (hw : Cond.fieldLink own idx "BeggarCorners$Kinds" "ABOVE" "[I" ∈ lw_tbl) (k : PW G own nm cc nL ret d kc ks Q pc' ls (.ref 1000001 :: rest) S I) : PW G own nm cc nL ret d kc ks Q pc ls rest S I := by
  subst hp
  intro p e R s m args below meth c0 H locs cells slots arr hC
  obtain ⟨hx, hb, hr, hml, hown, hlk, hnm, hts, hO, hS, hP, hl, hR⟩ := id hC
  have hk := k p e R s m args below meth c0 H locs cells slots arr hC
  have hk : W _ _ _ _ _ _ _ _ _ _ _ _ _ _ _ (F0 m (pc + 3) arr (.ref (gA G (1000000 + 1)) :: rest.map (em G))) := hk
  rw [gA_x] at hk
  exact va_gets hx hb hO.2.2.1.2.1 hS hown (hts _ (lw_in hw rfl)) (fun _ h => h) hd hk
theorem P_abld {G : GX} {own nm : String} {cc : ByteArray} {nL : Nat} {ret : Option FieldType} {d kc ks : Nat} {Q : Option Value → Shp → Mem → Prop} {pc pc' : Nat} {ls : List (Option Value)} {rest : List Value} {S : Shp} {I : Mem} {i : Int32} {j : Nat} (hd : decode cc pc = .ok (.iaload, 1)) (hp : pc + 1 = pc') (hj : i = nI j) (hlt : j < 6) (k : PW G own nm cc nL ret d kc ks Q pc' ls (.int (([-1, 0, 0, 1, 2, 0] : List Int32).getD j 0) :: rest) S I) : PW G own nm cc nL ret d kc ks Q pc ls (.int i :: .ref 1000001 :: rest) S I := by
  subst hp
  subst hj
  intro p e R s m args below meth c0 H locs cells slots arr hC
  obtain ⟨hx, hb, hr, hml, hown, hlk, hnm, hts, hO, hS, hP, hl, hR⟩ := id hC
  have hk := k p e R s m args below meth c0 H locs cells slots arr hC
  obtain ⟨cell, h1, h2, h3, h4, h5, h6, h7⟩ := hO.2.2.1.2.2.1
  show W _ _ _ _ _ _ _ _ _ _ _ _ _ _ _ (F0 m pc arr (.int (nI j) :: .ref (gA G (1000000 + 1)) :: rest.map (em G)))
  rw [gA_x]
  have hcl : (nI j).toNatClampNeg = j := nI_clamp (by omega)
  refine W.iald (v := .int (([-1, 0, 0, 1, 2, 0] : List Int32).getD j 0)) hx hb (by rw [hS.2.1 _ (Array.getElem?_eq_some_iff.mp h1).1 h7]; exact h1) h2 h3 (by
    rw [hcl]
    rintro (q | q)
    · exact nI_pos (n := j) (by omega) q
    · omega) (by rw [hcl]; exact h6 j hlt) rfl rfl hd hk
theorem P_ablen {G : GX} {own nm : String} {cc : ByteArray} {nL : Nat} {ret : Option FieldType} {d kc ks : Nat} {Q : Option Value → Shp → Mem → Prop} {pc pc' : Nat} {ls : List (Option Value)} {rest : List Value} {S : Shp} {I : Mem} (hd : decode cc pc = .ok (.arraylength, 1)) (hp : pc + 1 = pc') (k : PW G own nm cc nL ret d kc ks Q pc' ls (.int 6 :: rest) S I) : PW G own nm cc nL ret d kc ks Q pc ls (.ref 1000001 :: rest) S I := by
  subst hp
  intro p e R s m args below meth c0 H locs cells slots arr hC
  obtain ⟨hx, hb, hr, hml, hown, hlk, hnm, hts, hO, hS, hP, hl, hR⟩ := id hC
  have hk := k p e R s m args below meth c0 H locs cells slots arr hC
  obtain ⟨cell, h1, h2, h3, h4, h5, h6, h7⟩ := hO.2.2.1.2.2.1
  show W _ _ _ _ _ _ _ _ _ _ _ _ _ _ _ (F0 m pc arr (.ref (gA G (1000000 + 1)) :: rest.map (em G)))
  rw [gA_x]
  exact W.alen (n := 6) hx hb (by rw [hS.2.1 _ (Array.getElem?_eq_some_iff.mp h1).1 h7]; exact h1) h2 h5 rfl rfl hd hk
theorem P_copy {G : GX} {own nm : String} {cc : ByteArray} {nL : Nat} {ret : Option FieldType} {d kc ks : Nat} {Q : Option Value → Shp → Mem → Prop} {pc pc' : Nat} {ls : List (Option Value)} {rest : List Value} {S : Shp} {I : Mem} {idx a b n0 n1 sp dp n : Nat} {sp' dp' n' : Int32} (hd : decode cc pc = .ok (.invokestatic idx, 3)) (hp : pc + 3 = pc') (hw : Cond.methodLink own idx arraycopyName ∈ lw_tbl ∧ Cond.native arraycopyName ∈ lw_tbl ∧ Cond.static arraycopyName ∈ lw_tbl ∧ Cond.initialized "java/lang/System" ∈ lw_tbl) (ha : a < S.1) (hta : S.2.1 a = (9, n0)) (hbn : b < S.1) (htb : S.2.1 b = (9, n1)) (e1 : sp' = nI sp) (e2 : dp' = nI dp) (e3 : n' = nI n) (h1 : sp + n ≤ n0) (h2 : dp + n ≤ n1) (hn0 : n0 < 2 ^ 31) (hn1 : n1 < 2 ^ 31) (hd1 : 2 ≤ d) (hsum : (rest.map fun v => v.category).sum ≤ 8) (k : PW G own nm cc nL ret d kc ks Q pc' ls rest S (fun x => if x = b then va_cpy (I a) (I b) sp dp n else I x)) : PW G own nm cc nL ret d kc ks Q pc ls (.int n' :: .int dp' :: .ref b :: .int sp' :: .ref a :: rest) S I := by
  subst hp; subst e1; subst e2; subst e3
  intro p e R s m args below meth c0 H locs cells slots arr hC
  obtain ⟨hx, hb, hr, hml, hown, hlk, hnm, hts, hO, hS, hP, hl, hR⟩ := id hC
  have hea : (wsO G S I)[a]? = some (gB G + a, .inl (gCy G 9, n0, .inl (I a))) := by rw [wsO_at ha, hta, cellO_int (by decide) (by decide)]
  have heb : (wsO G S I)[b]? = some (gB G + b, .inl (gCy G 9, n1, .inl (I b))) := by rw [wsO_at hbn, htb, cellO_int (by decide) (by decide)]
  have hc0 : H[gB G + a]? = some (vp_cell (gCy G 9) (n0, .inl (I a))) := hP.2.2 a _ hea
  have hc1 : H[gB G + b]? = some (vp_cell (gCy G 9) (n1, .inl (I b))) := hP.2.2 b _ heb
  obtain ⟨-, k0, hk0, cm0, hkk0⟩ := (hO.1.2 0 _ rfl).1 n0 (fun j => .int (I a j))
  obtain ⟨-, k1, hk1, cm1, hkk1⟩ := (hO.1.2 0 _ rfl).1 n1 (fun j => .int (I b j))
  show W _ _ _ _ _ _ _ _ _ _ _ _ _ _ _ (F0 m pc arr (.int (nI n) :: .int (nI dp) :: .ref (gA G b) :: .int (nI sp) :: .ref (gA G a) :: rest.map (em G)))
  rw [gA_lt ha hP.2.1, gA_lt hbn hP.2.1]
  have c1 : (nI sp).toNatClampNeg = sp := nI_clamp (by omega)
  have c2 : (nI dp).toNatClampNeg = dp := nI_clamp (by omega)
  have c3 : (nI n).toNatClampNeg = n := nI_clamp (by omega)
  intro T hT X
  obtain ⟨vm', X', step⟩ := X.arraycopy hx hown (hts _ (lw_in hw.1 rfl)) (hts _ (lw_in hw.2.1 rfl)) (hts _ (lw_in hw.2.2.1 rfl)) (hts _ (lw_in hw.2.2.2 rfl)) (src := gB G + a) (dst := gB G + b) (cs := vp_cell (gCy G 9) (n0, .inl (I a))) (cd := vp_cell (gCy G 9) (n1, .inl (I b))) (srcPos := nI sp) (destPos := nI dp) (n := nI n) (by rw [hT]; exact hc0) (by rw [hT]; exact hc1)
    (fun _ h => by cases h) (fun _ h => by cases h) (fun h => by cases h) (fun h => by cases h) hk0 hk1 hkk0 hkk1 (by simp [refKind]) (nI_pos (by omega)) (nI_pos (by omega)) (nI_pos (by omega))
    (by rw [nI_toInt (by omega), nI_toInt (by omega)]; show ¬ _ > ((arrV (gCy G 9) n0 (fun j => .int (I a j))).slots.size : Int); rw [arrV_size]; omega)
    (by rw [nI_toInt (by omega), nI_toInt (by omega)]; show ¬ _ > ((arrV (gCy G 9) n1 (fun j => .int (I b j))).slots.size : Int); rw [arrV_size]; omega)
    (fun vm₁ _ i hi => by
      have e : (vp_cell (gCy G 9) (n0, .inl (I a))).slots.getD ((nI sp).toNatClampNeg + i) .null = .int (I a ((nI sp).toNatClampNeg + i)) := by
        show (arrV (gCy G 9) n0 (fun j => .int (I a j))).slots.getD _ _ = _
        rw [Array.getD_eq_getD_getElem?, arrV_read _ _ (by rw [c1]; rw [c3] at hi; omega)]
        rfl
      refine ⟨?_, ?_⟩
      · rw [e]; rfl
      · rw [e]; exact trivial)
    (g := F0 m pc arr (.int (nI n) :: .int (nI dp) :: .ref (gB G + b) :: .int (nI sp) :: .ref (gB G + a) :: rest.map (em G))) rfl (by rw [hml]; exact hl.1) (rest := rest.map (em G)) rfl (by rw [hb]; exact hd) (by omega) (by
      have := em_sum G rest
      show 2 * 0 + ((rest.map (em G)).map fun v => v.category).sum + (nativeFrameWords "java/lang/System" "arraycopy" 5 + 11) ≤ R.locals
      have : nativeFrameWords "java/lang/System" "arraycopy" 5 ≤ 60 := by decide +kernel
      omega)
  have e1 : copied (vp_cell (gCy G 9) (n0, .inl (I a))) (vp_cell (gCy G 9) (n1, .inl (I b))) (nI sp) (nI dp) (nI n) = vp_cell (gCy G 9) (n1, .inl (va_cpy (I a) (I b) sp dp n)) := by
    show (arrV (gCy G 9) n1 (fun j => Value.int (I b j))).storeRun (nI dp).toNatClampNeg ((arrV (gCy G 9) n0 (fun j => Value.int (I a j))).stretch (nI sp).toNatClampNeg (nI n).toNatClampNeg) = _
    rw [c1, c2, c3]
    exact va_copied (fun z => Value.int z) (gCy G 9) (gCy G 9) (I a) (I b) h1
  rw [e1] at X' step
  have hlt : gB G + b < H.size := (Array.getElem?_eq_some_iff.mp hc1).1
  have oq : ∀ q : Nat, q ≠ gB G + b → (H.setIfInBounds (gB G + b) (vp_cell (gCy G 9) (n1, .inl (va_cpy (I a) (I b) sp dp n))))[q]? = H[q]? := fun q hq => by simp [Array.getElem?_setIfInBounds, Ne.symm hq]
  have hheap : ((T.setVm vm').setCell (gB G + b) (vp_cell (gCy G 9) (n1, .inl (va_cpy (I a) (I b) sp dp n)))).heap = H.setIfInBounds (gB G + b) (vp_cell (gCy G 9) (n1, .inl (va_cpy (I a) (I b) sp dp n))) := by rw [← hT]; rfl
  have hP1 := hP.2.2.set (wsO_D G S I) heb (e := .inl (gCy G 9, n1, .inl (va_cpy (I a) (I b) sp dp n))) (show (H.setIfInBounds (gB G + b) _)[gB G + b]? = some _ by simp [Array.getElem?_setIfInBounds, hlt]) oq
  rw [wsO_arow (by decide) (by decide) hbn htb] at hP1
  obtain ⟨t, a1, b1⟩ := k p e R s m args below meth c0 (H.setIfInBounds (gB G + b) (vp_cell (gCy G 9) (n1, .inl (va_cpy (I a) (I b) sp dp n)))) _ cells slots arr ⟨hx, hb, hr, hml, hown, hlk, hnm, hts, hO, ⟨by simp; exact hS.1, fun q g1 g2 => by
      rw [oq q (fun e => g2 (by rw [e]; exact Nat.le_add_right _ _))]
      exact hS.2.1 q g1 g2, fun q hq => by
      rcases List.mem_append.mp hq with h | h
      · exact hS.2.2 q h
      · obtain ⟨z, -, hz⟩ := List.mem_map.mp h
        rw [← hz]
        exact Nat.le_add_right _ _⟩, ⟨by simp; exact hP.1, hP.2.1, hP1⟩, hl, hR⟩ _ hheap X'
  exact ⟨t, step t a1, b1⟩
