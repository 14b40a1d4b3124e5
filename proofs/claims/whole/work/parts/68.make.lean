/-! ===== making ===== -/
theorem FE.room {s t : State} {o : Outcome} {L : List Loc} {k n k' n' : Nat} (h : FrameEnd s o t L k n) (h1 : k ≤ k') (h2 : n ≤ n') : FrameEnd s o t L k' n' := by
  obtain ⟨a, b, c1, c2, c3, c4, c5, c6⟩ := h
  exact ⟨a, b, c1, c2, Nat.le_trans c3 (Nat.add_le_add_left h1 _), c4, Nat.le_trans c5 h2, c6⟩
theorem PW.room {G : GX} {own nm : String} {cc : ByteArray} {nL : Nat} {ret : Option FieldType} {d d' kc ks kc' ks' : Nat} {Q : Option Value → Shp → Mem → Prop} {pc : Nat} {ls : List (Option Value)} {st : List Value} {S : Shp} {I : Mem} (h : PW G own nm cc nL ret d kc ks Q pc ls st S I) (hd : d ≤ d') (h1 : kc ≤ kc') (h2 : ks ≤ ks') : PW G own nm cc nL ret d' kc' ks' Q pc ls st S I := by
  intro p e R s m args below meth c H locs cells slots arr hC T hT X
  obtain ⟨hx, hb, hr, hml, hown, hlk, hnm, hts, hO, hS, hP, hl, r1, r2, r3, r4⟩ := hC
  obtain ⟨t, a1, o, b1, b2, b3, L, b4, b5⟩ := h p e R s m args below meth c H locs cells slots arr ⟨hx, hb, hr, hml, hown, hlk, hnm, hts, hO, hS, hP, hl, by omega, by omega, by omega, by omega⟩ T hT X
  exact ⟨t, a1, o, b1, b2, b3, L, FE.room b4 (by omega) (by omega), b5⟩
theorem PM.sz {G : GX} {y : MethodName} {cc : ByteArray} {nL : Nat} {ret : Option FieldType} {d kc ks : Nat} {as : List Value} {S : Shp} {I : Mem} {Q : Option Value → Shp → Mem → Prop} (h : PM G y cc nL ret d kc ks as S I Q) : PM G y cc nL ret d kc ks as S I (fun r S' I' => Q r S' I' ∧ S.1 ≤ S'.1 ∧ S'.1 ≤ S.1 + kc) := by
  intro p e ha hc hk s m args below hf happ hP hK
  obtain ⟨n, o, h1, h2, h3, ⟨r, S', I', q1, q2, q3, q4, q5⟩, L, hF, hL⟩ := h p e ha hc hk s m args below hf happ hP hK
  have z1 := hP.2.2.1
  have z2 := q3.1
  have z3 : (stepsAlone p.tables e n s).heap.size ≤ s.heap.size + kc := hF.2.2.2.2.1
  exact ⟨n, o, h1, h2, h3, ⟨r, S', I', q1, ⟨q2, by omega, by omega⟩, q3, q4, q5⟩, L, hF, hL⟩
theorem SHP.nS {S : Shp} (h : SHP S) (q : Nat × Nat) (h1 : S.1 + 1 ≤ 3000) : SHP (nS S q) := by
  obtain ⟨a1, a2, a3, a4⟩ := h
  refine ⟨by show 77 ≤ S.1 + 1; omega, h1, fun i hi => ?_, fun i j hi h2 h3 => ?_⟩
  · show (if i = S.1 then q else S.2.1 i) = _
    rw [if_neg (by omega)]; exact a3 i hi
  · show (if i = S.1 then none else S.2.2 i j) = _
    rw [if_neg (by omega)]; exact a4 i j hi h2 h3
theorem c_copyOf {G : GX} {S : Shp} {I : Mem} {d a n len : Nat} (ha : a < S.1) (ht : S.2.1 a = (9, n)) (hn : n ≤ 96) (hl : len < n) (cap : S.1 + 1 ≤ 3000) (hd : 2 ≤ d) : PM G yJ_Arrays_copyOf cJ_Arrays_copyOf 3 (some (.array .int)) d (0 + 1) (0 + len) [.ref a, .int (nI len)] S I (fun r S' J => r = some (.ref S.1) ∧ S' = nS S (9, len) ∧ J = sR (nM S I) S.1 (va_cpy (I a) (fun _ => 0) 0 0 len)) := by
  have e1 : nM S I a = I a := by funext j; exact if_neg (by omega)
  have e2 : nM S I S.1 = fun _ => 0 := nM_0 S I
  have ha2 : a < (nS S (9, len)).1 := by show a < S.1 + 1; omega
  have ht2 : (nS S (9, len)).2.1 a = (9, n) := by show (if a = S.1 then _ else S.2.1 a) = _; rw [if_neg (by omega)]; exact ht
  have hb2 : S.1 < (nS S (9, len)).1 := Nat.lt_succ_self _
  have tb2 := nS_t S (9, len)
  refine PM.of (ls := [some (.ref a), some (.int (nI len)), none]) (by decide) rfl (Nat.le_of_ble_eq_true rfl) rfl ?_
  show PW G "java/util/Arrays" "copyOf" _ _ _ _ _ _ _ _ _ _ _ _
  refine P_iload1 (pc' := 1) dJ_Arrays_copyOf_0 rfl ?_
  refine P_aload0 (pc' := 2) dJ_Arrays_copyOf_1 rfl ?_
  refine P_alen (pc' := 3) dJ_Arrays_copyOf_2 rfl ha ht (by decide) (by decide) ?_
  refine P_icmp_ne (tgt := 14) (pc' := 6) dJ_Arrays_copyOf_3 rfl rfl (fun h3 => ?_) (fun h3 => ?_)
  · refine P_iload1 (pc' := 15) dJ_Arrays_copyOf_14 rfl ?_
    refine P_newi (pc' := 17) dJ_Arrays_copyOf_15 rfl ac_int (N := len) rfl (by omega) (by omega) ?_
    refine P_astore2 (pc' := 18) dJ_Arrays_copyOf_17 rfl (by decide) rfl ?_
    refine P_aload0 (pc' := 19) dJ_Arrays_copyOf_18 rfl ?_
    refine P_iconst (pc' := 20) dJ_Arrays_copyOf_19 rfl (v := 0) rfl ?_
    refine P_aload2 (pc' := 21) dJ_Arrays_copyOf_20 rfl ?_
    refine P_iconst (pc' := 22) dJ_Arrays_copyOf_21 rfl (v := 0) rfl ?_
    refine P_aload0 (pc' := 23) dJ_Arrays_copyOf_22 rfl ?_
    refine P_alen (pc' := 24) dJ_Arrays_copyOf_23 rfl ha2 ht2 (by decide) (by decide) ?_
    refine P_iload1 (pc' := 25) dJ_Arrays_copyOf_24 rfl ?_
    refine P_min (pc' := 28) dJ_Arrays_copyOf_25 rfl lk_JArrays_304 (by omega) (Nat.le_of_ble_eq_true rfl) ?_
    refine P_as (y := nI len) (if_pos (nI_lt hl (by omega))) ?_
    refine P_copy (pc' := 31) (n := len) (sp := 0) (dp := 0) dJ_Arrays_copyOf_28 rfl lk_JArrays_150 ha2 ht2 hb2 tb2 rfl rfl rfl (by omega) (by omega) (by omega) (by omega) (by omega) (Nat.le_of_ble_eq_true rfl) ?_
    refine P_aload2 (pc' := 32) dJ_Arrays_copyOf_31 rfl ?_
    refine P_aretA dJ_Arrays_copyOf_32 ?_
    refine ⟨rfl, rfl, ?_⟩
    unfold sR
    rw [e1, e2]
  · exact absurd ((nI_eq (by omega) (by omega)).mp h3) (by omega)
def tS (S : Shp) (t a sz : Nat) : Shp := (S.1 + 1, (nS S (9, sz)).2.1, p2 (nS (S.1, S.2.1, p2 S.2.2 t 2 (some a)) (9, sz)).2.2 t 3 (some S.1))
theorem nI_max1 {p : Nat} (h : p ≤ 96) : (if nI p < 1 then (1 : Int32) else nI p) = nI (max p 1) := by
  by_cases q : p < 1
  · rw [if_pos (show nI p < 1 from nI_lt (b := 1) q (by decide)), Nat.max_eq_right (by omega)]; rfl
  · rw [if_neg (show ¬ nI p < 1 from nI_nlt (b := 1) (by omega) (by omega)), Nat.max_eq_left (by omega)]
theorem c_X7_init {G : GX} {S : Shp} {I : Mem} {d t a p : Nat} {ky : Int32} (ht : t < S.1) (tt : S.2.1 t = (6, 0)) (hp : p ≤ 96) (cap : S.1 + 1 ≤ 3000) (hd : 1 ≤ d) : PM G yX7_init cX7_init 4 none d (0 + 1) (0 + max p 1) [.ref t, .int ky, .int (nI p), .ref a] S I (fun r S' J => r = none ∧ S' = tS S t a (max p 1) ∧ J = nM S (u2 (u2 I t 0 ky) t 1 (nI p))) := by
  have ht2 : t < (nS (S.1, S.2.1, p2 S.2.2 t 2 (some a)) (9, max p 1)).1 := by show t < S.1 + 1; omega
  have tt2 : (nS (S.1, S.2.1, p2 S.2.2 t 2 (some a)) (9, max p 1)).2.1 t = (6, 0) := by show (if t = S.1 then _ else S.2.1 t) = _; rw [if_neg (by omega)]; exact tt
  refine PM.of (ls := [some (.ref t), some (.int ky), some (.int (nI p)), some (.ref a)]) (by decide) rfl (Nat.le_of_ble_eq_true rfl) rfl ?_
  show PW G RX7 "<init>" _ _ _ _ _ _ _ _ _ _ _ _
  refine P_aload0 (pc' := 1) dX7_init_0 rfl ?_
  refine P_objInit (pc' := 4) dX7_init_1 rfl lk_X7_1 (by omega) (Nat.le_of_ble_eq_true rfl) ?_
  refine P_aload0 (pc' := 5) dX7_init_4 rfl ?_
  refine P_iload1 (pc' := 6) dX7_init_5 rfl ?_
  refine P_putiF (pc' := 9) dX7_init_6 rfl fl_X7_7 rfl (fun _ _ _ z => (congrArg Prod.fst (Option.some.inj z)).symm) rfl ht tt ?_
  refine P_aload0 (pc' := 10) dX7_init_9 rfl ?_
  refine P_iload2 (pc' := 11) dX7_init_10 rfl ?_
  refine P_putiF (pc' := 14) dX7_init_11 rfl fl_X7_13 rfl (fun _ _ _ z => (congrArg Prod.fst (Option.some.inj z)).symm) rfl ht tt ?_
  refine P_aload0 (pc' := 15) dX7_init_14 rfl ?_
  refine P_aload3 (pc' := 16) dX7_init_15 rfl ?_
  refine P_putrF (pc' := 19) dX7_init_16 rfl fl_X7_16 rfl (fun _ _ _ z => (congrArg Prod.fst (Option.some.inj z)).symm) (Or.inr ⟨_, rfl⟩) rfl ht tt ?_
  refine P_aload0 (pc' := 20) dX7_init_19 rfl ?_
  refine P_iload2 (pc' := 21) dX7_init_20 rfl ?_
  refine P_iconst (pc' := 22) dX7_init_21 rfl (v := 1) rfl ?_
  refine P_max (pc' := 25) dX7_init_22 rfl lk_X7_20 (by omega) (Nat.le_of_ble_eq_true rfl) ?_
  refine P_as (nI_max1 hp) ?_
  refine P_newi (pc' := 27) dX7_init_25 rfl ac_int (N := max p 1) rfl (by omega) (Nat.le_trans cap (by decide)) ?_
  refine P_putrF (pc' := 30) dX7_init_27 rfl fl_X7_26 rfl (fun _ _ _ z => (congrArg Prod.fst (Option.some.inj z)).symm) (Or.inr ⟨_, rfl⟩) rfl ht2 tt2 ?_
  refine P_vret dX7_init_30 ?_
  exact ⟨rfl, rfl, rfl⟩

