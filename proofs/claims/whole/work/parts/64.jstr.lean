/-! the texts that the class has written out: where they lie, what they hold -/
def stL (i : Nat) : Nat := ([4, 3, 4, 3, 2, 2] : List Nat).getD i 0
def stB (i j : Nat) : Int32 := (([[97, 108, 109, 115], [102, 101, 101], [102, 105, 110, 101], [99, 103, 115], [99, 104], [112, 104]] : List (List Int32)).getD i []).getD j 0
theorem gA_s {G : GX} (i : Nat) : gA G (1000002 + i) = gXt G (2 + i) := by
  unfold gA
  rw [if_neg (by omega), show 1000002 + i - 1000000 = 2 + i by omega]
theorem gA_b {G : GX} (i : Nat) : gA G (1000008 + i) = gXt G (8 + i) := by
  unfold gA
  rw [if_neg (by omega), show 1000008 + i - 1000000 = 8 + i by omega]
theorem P_ldS {G : GX} {own nm : String} {cc : ByteArray} {nL : Nat} {ret : Option FieldType} {d kc ks : Nat} {Q : Option Value → Shp → Mem → Prop} {pc pc' : Nat} {ls : List (Option Value)} {rest : List Value} {S : Shp} {I : Mem} {x i : Nat} {tx : String} (hv : ∀ U H, Xt G U H → vk_R own x tx (gXt G (2 + i)) U) (hd : decode cc pc = .ok (.ldc x, 2)) (hp : pc + 2 = pc') (k : PW G own nm cc nL ret d kc ks Q pc' ls (.ref (1000002 + i) :: rest) S I) : PW G own nm cc nL ret d kc ks Q pc ls rest S I := by
  subst hp
  intro p e R s m args below meth c0 H locs cells slots arr hC
  obtain ⟨hx, hb, hr, hml, hown, hlk, hnm, hts, hO, hS, hP, hl, hR⟩ := id hC
  have hk := k p e R s m args below meth c0 H locs cells slots arr hC
  have hk : W _ _ _ _ _ _ _ _ _ _ _ _ _ _ _ (F0 m (pc + 2) arr (.ref (gA G (1000002 + i)) :: rest.map (em G))) := hk
  rw [gA_s] at hk
  exact va_ldcS hx hb hown (hv s s.heap hO.2.2.1) hd hk
theorem P_sval {G : GX} {own nm : String} {cc : ByteArray} {nL : Nat} {ret : Option FieldType} {d kc ks : Nat} {Q : Option Value → Shp → Mem → Prop} {pc pc' : Nat} {ls : List (Option Value)} {rest : List Value} {S : Shp} {I : Mem} {x i : Nat} (hd : decode cc pc = .ok (.getfield x, 3)) (hp : pc + 3 = pc') (hw : Cond.fieldLink own x "java/lang/String" "value" "[B" ∈ lw_tbl) (hi : i < 6) (k : PW G own nm cc nL ret d kc ks Q pc' ls (.ref (1000008 + i) :: rest) S I) : PW G own nm cc nL ret d kc ks Q pc ls (.ref (1000002 + i) :: rest) S I := by
  subst hp
  intro p e R s m args below meth c0 H locs cells slots arr hC
  obtain ⟨hx, hb, hr, hml, hown, hlk, hnm, hts, hO, hS, hP, hl, hR⟩ := id hC
  have hk := k p e R s m args below meth c0 H locs cells slots arr hC
  have hk : W _ _ _ _ _ _ _ _ _ _ _ _ _ _ _ (F0 m (pc + 3) arr (.ref (gA G (1000008 + i)) :: rest.map (em G))) := hk
  rw [gA_b] at hk
  show W _ _ _ _ _ _ _ _ _ _ _ _ _ _ _ (F0 m pc arr (.ref (gA G (1000002 + i)) :: rest.map (em G)))
  rw [gA_s]
  exact vk_getf hx hb (hO.2.2.1.2.2.2.2.2.1.1 i hi).2.2.1 hS hown (hts _ (lw_in hw rfl)) (fun _ h => h) hd hk
theorem P_scod {G : GX} {own nm : String} {cc : ByteArray} {nL : Nat} {ret : Option FieldType} {d kc ks : Nat} {Q : Option Value → Shp → Mem → Prop} {pc pc' : Nat} {ls : List (Option Value)} {rest : List Value} {S : Shp} {I : Mem} {x i : Nat} (hd : decode cc pc = .ok (.getfield x, 3)) (hp : pc + 3 = pc') (hw : Cond.fieldLink own x "java/lang/String" "coder" "B" ∈ lw_tbl) (hi : i < 6) (k : PW G own nm cc nL ret d kc ks Q pc' ls (.int 0 :: rest) S I) : PW G own nm cc nL ret d kc ks Q pc ls (.ref (1000002 + i) :: rest) S I := by
  subst hp
  intro p e R s m args below meth c0 H locs cells slots arr hC
  obtain ⟨hx, hb, hr, hml, hown, hlk, hnm, hts, hO, hS, hP, hl, hR⟩ := id hC
  have hk := k p e R s m args below meth c0 H locs cells slots arr hC
  show W _ _ _ _ _ _ _ _ _ _ _ _ _ _ _ (F0 m pc arr (.ref (gA G (1000002 + i)) :: rest.map (em G)))
  rw [gA_s]
  exact vk_getf hx hb (hO.2.2.1.2.2.2.2.2.1.1 i hi).2.1 hS hown (hts _ (lw_in hw rfl)) (fun _ h => h) hd hk
theorem P_sbln {G : GX} {own nm : String} {cc : ByteArray} {nL : Nat} {ret : Option FieldType} {d kc ks : Nat} {Q : Option Value → Shp → Mem → Prop} {pc pc' : Nat} {ls : List (Option Value)} {rest : List Value} {S : Shp} {I : Mem} {i : Nat} (hd : decode cc pc = .ok (.arraylength, 1)) (hp : pc + 1 = pc') (hi : i < 6) (k : PW G own nm cc nL ret d kc ks Q pc' ls (.int (nI (stL i)) :: rest) S I) : PW G own nm cc nL ret d kc ks Q pc ls (.ref (1000008 + i) :: rest) S I := by
  subst hp
  intro p e R s m args below meth c0 H locs cells slots arr hC
  obtain ⟨hx, hb, hr, hml, hown, hlk, hnm, hts, hO, hS, hP, hl, hR⟩ := id hC
  have hk := k p e R s m args below meth c0 H locs cells slots arr hC
  obtain ⟨cell, h1, h2, h3, h4, h5, h6, h7⟩ := (hO.2.2.1.2.2.2.2.2.1.1 i hi).2.2.2
  show W _ _ _ _ _ _ _ _ _ _ _ _ _ _ _ (F0 m pc arr (.ref (gA G (1000008 + i)) :: rest.map (em G)))
  rw [gA_b]
  exact W.alen (n := nI (stL i)) hx hb (by rw [hS.2.1 _ (Array.getElem?_eq_some_iff.mp h1).1 h7]; exact h1) h2 h5 rfl rfl hd hk
theorem P_sbal {G : GX} {own nm : String} {cc : ByteArray} {nL : Nat} {ret : Option FieldType} {d kc ks : Nat} {Q : Option Value → Shp → Mem → Prop} {pc pc' : Nat} {ls : List (Option Value)} {rest : List Value} {S : Shp} {I : Mem} {i j : Nat} {y : Int32} (hd : decode cc pc = .ok (.baload, 1)) (hp : pc + 1 = pc') (hi : i < 6) (hy : y = nI j) (hj : j < stL i) (k : PW G own nm cc nL ret d kc ks Q pc' ls (.int (stB i j) :: rest) S I) : PW G own nm cc nL ret d kc ks Q pc ls (.int y :: .ref (1000008 + i) :: rest) S I := by
  subst hy
  subst hp
  intro p e R s m args below meth c0 H locs cells slots arr hC
  obtain ⟨hx, hb, hr, hml, hown, hlk, hnm, hts, hO, hS, hP, hl, hR⟩ := id hC
  have hk := k p e R s m args below meth c0 H locs cells slots arr hC
  obtain ⟨cell, h1, h2, h3, h4, h5, h6, h7⟩ := (hO.2.2.1.2.2.2.2.2.1.1 i hi).2.2.2
  show W _ _ _ _ _ _ _ _ _ _ _ _ _ _ _ (F0 m pc arr (.int (nI j) :: .ref (gA G (1000008 + i)) :: rest.map (em G)))
  rw [gA_b]
  have hl4 : stL i ≤ 4 := by
    have key : ∀ i, i < 6 → stL i ≤ 4 := by decide
    exact key i hi
  have hcl : (nI j).toNatClampNeg = j := nI_clamp (by omega)
  have h4 : stL i ≤ cell.slots.size := h4
  refine W.bald (v := .int (stB i j)) hx hb (by rw [hS.2.1 _ (Array.getElem?_eq_some_iff.mp h1).1 h7]; exact h1) h2 h3 (by
    rw [hcl]
    rintro (q | q)
    · exact nI_pos (n := j) (by omega) q
    · omega) (by rw [hcl]; exact h6 j hj) rfl rfl hd hk
theorem P_cmps {G : GX} {own nm : String} {cc : ByteArray} {nL : Nat} {ret : Option FieldType} {d kc ks : Nat} {Q : Option Value → Shp → Mem → Prop} {pc pc' : Nat} {ls : List (Option Value)} {rest : List Value} {S : Shp} {I : Mem} {x : Nat} (hd : decode cc pc = .ok (.getstatic x, 3)) (hp : pc + 3 = pc') (hw : Cond.fieldLink own x "java/lang/String" "COMPACT_STRINGS" "Z" ∈ lw_tbl) (k : PW G own nm cc nL ret d kc ks Q pc' ls (.int 1 :: rest) S I) : PW G own nm cc nL ret d kc ks Q pc ls rest S I := by
  subst hp
  intro p e R s m args below meth c0 H locs cells slots arr hC
  obtain ⟨hx, hb, hr, hml, hown, hlk, hnm, hts, hO, hS, hP, hl, hR⟩ := id hC
  have hk := k p e R s m args below meth c0 H locs cells slots arr hC
  exact va_gets hx hb hO.2.2.1.2.2.2.1 hS hown (hts _ (lw_in hw rfl)) (fun _ h => h) hd hk
theorem P_fmt {G : GX} {own nm : String} {cc : ByteArray} {nL : Nat} {ret : Option FieldType} {d kc ks : Nat} {Q : Option Value → Shp → Mem → Prop} {pc pc' : Nat} {ls : List (Option Value)} {rest : List Value} {S : Shp} {I : Mem} {x : Nat} (hd : decode cc pc = .ok (.getstatic x, 3)) (hp : pc + 3 = pc') (hw : Cond.fieldLink own x "jdk/internal/util/Preconditions" "SIOOBE_FORMATTER" "Ljava/util/function/BiFunction;" ∈ lw_tbl) (k : PW G own nm cc nL ret d kc ks Q pc' ls (gFm G :: rest) S I) : PW G own nm cc nL ret d kc ks Q pc ls rest S I := by
  subst hp
  intro p e R s m args below meth c0 H locs cells slots arr hC
  obtain ⟨hx, hb, hr, hml, hown, hlk, hnm, hts, hO, hS, hP, hl, hR⟩ := id hC
  have hk := k p e R s m args below meth c0 H locs cells slots arr hC
  exact va_gets hx hb hO.2.2.1.2.2.2.2.1 hS hown (hts _ (lw_in hw rfl)) (fun _ h => h) hd hk
/-! the JDK's own methods of them -/
theorem c_J_coder {G : GX} {S : Shp} {I : Mem} {d i : Nat} (hi : i < 6) : PM G yJ_String_coder cJ_String_coder 1 (some .byte) d 0 0 [.ref (1000002 + i)] S I (Rm S I 0) := by
  refine PM.of (ls := [some (.ref (1000002 + i))]) (by decide) rfl (Nat.le_of_ble_eq_true rfl) rfl ?_
  show PW G "java/lang/String" "coder" _ _ _ _ _ _ _ _ _ _ _ _
  refine P_cmps (pc' := 3) dJ_String_coder_0 rfl fx_JString_38 ?_
  refine P_if_eq (tgt := 13) (pc' := 6) dJ_String_coder_3 rfl rfl (fun h => absurd h (by decide)) (fun _ => ?_)
  refine P_aload0 (pc' := 7) dJ_String_coder_6 rfl ?_
  refine P_scod (pc' := 10) dJ_String_coder_7 rfl fx_JString_15 hi ?_
  refine P_goto (tgt := 14) dJ_String_coder_10 rfl ?_
  refine P_bret dJ_String_coder_14 (by decide) ?_
  exact ⟨rfl, rfl, rfl⟩
theorem sh_0 (x : Int32) : x >>> ((0 : Int32) &&& 31) = x := by
  rw [show (0 : Int32) &&& 31 = 0 by decide, Int32.shiftRight_zero]
theorem c_J_length {G : GX} {S : Shp} {I : Mem} {d i : Nat} (hi : i < 6) (hd : 1 ≤ d) : PM G yJ_String_length cJ_String_length 1 (some .int) d 0 0 [.ref (1000002 + i)] S I (Rm S I (nI (stL i))) := by
  refine PM.of (ls := [some (.ref (1000002 + i))]) (by decide) rfl (Nat.le_of_ble_eq_true rfl) rfl ?_
  show PW G "java/lang/String" "length" _ _ _ _ _ _ _ _ _ _ _ _
  refine P_aload0 (pc' := 1) dJ_String_length_0 rfl ?_
  refine P_sval (pc' := 4) dJ_String_length_1 rfl fx_JString_9 hi ?_
  refine P_sbln (pc' := 5) dJ_String_length_4 rfl hi ?_
  refine P_aload0 (pc' := 6) dJ_String_length_5 rfl ?_
  refine P_callX (pc' := 9) (as := []) dJ_String_length_6 rfl lk_JString_335 hi (c_J_coder (d := 0) hi) rfl (by omega) rfl (Nat.le_of_ble_eq_true rfl) (fun r S' I' hq => ?_)
  obtain ⟨rfl, rfl, rfl⟩ := hq
  refine P_ishr (pc' := 10) dJ_String_length_9 rfl ?_
  refine P_as (sh_0 _) ?_
  refine P_iret dJ_String_length_10 ?_
  exact ⟨rfl, rfl, rfl⟩
theorem c_J_isLatin1 {G : GX} {S : Shp} {I : Mem} {d i : Nat} (hi : i < 6) : PM G yJ_String_isLatin1 cJ_String_isLatin1 1 (some .boolean) d 0 0 [.ref (1000002 + i)] S I (Rm S I 1) := by
  refine PM.of (ls := [some (.ref (1000002 + i))]) (by decide) rfl (Nat.le_of_ble_eq_true rfl) rfl ?_
  show PW G "java/lang/String" "isLatin1" _ _ _ _ _ _ _ _ _ _ _ _
  refine P_cmps (pc' := 3) dJ_String_isLatin1_0 rfl fx_JString_38 ?_
  refine P_if_eq (tgt := 17) (pc' := 6) dJ_String_isLatin1_3 rfl rfl (fun h => absurd h (by decide)) (fun _ => ?_)
  refine P_aload0 (pc' := 7) dJ_String_isLatin1_6 rfl ?_
  refine P_scod (pc' := 10) dJ_String_isLatin1_7 rfl fx_JString_15 hi ?_
  refine P_if_ne (tgt := 17) (pc' := 13) dJ_String_isLatin1_10 rfl rfl (fun h => absurd rfl h) (fun _ => ?_)
  refine P_iconst (pc' := 14) dJ_String_isLatin1_13 rfl (v := 1) rfl ?_
  refine P_goto (tgt := 18) dJ_String_isLatin1_14 rfl ?_
  refine P_zret dJ_String_isLatin1_18 (Or.inr rfl) ?_
  exact ⟨rfl, rfl, rfl⟩
theorem c_J_pci {G : GX} {S : Shp} {I : Mem} {d j n : Nat} (hG : (gFm G).category = 1) (hj : j < n) (hn : n < 2 ^ 31) : PM G yJ_Preconditions_checkIndex cJ_Preconditions_checkIndex 3 (some .int) d 0 0 [.int (nI j), .int (nI n), gFm G] S I (Rm S I (nI j)) := by
  refine PM.of (ls := [some (.int (nI j)), some (.int (nI n)), some (gFm G)]) (by decide) (by rw [List.all_cons, List.all_cons, List.all_cons, hG]; rfl) (Nat.le_of_ble_eq_true rfl) rfl ?_
  show PW G "jdk/internal/util/Preconditions" "checkIndex" _ _ _ _ _ _ _ _ _ _ _ _
  refine P_iload0 (pc' := 1) dJ_Preconditions_checkIndex_0 rfl ?_
  refine P_if_lt (tgt := 9) (pc' := 4) dJ_Preconditions_checkIndex_1 rfl rfl (fun h => absurd h (nI_pos (by omega))) (fun _ => ?_)
  refine P_iload0 (pc' := 5) dJ_Preconditions_checkIndex_4 rfl ?_
  refine P_iload1 (pc' := 6) dJ_Preconditions_checkIndex_5 rfl ?_
  refine P_icmp_lt (tgt := 16) (pc' := 9) dJ_Preconditions_checkIndex_6 rfl rfl (fun _ => ?_) (fun h => absurd (nI_lt hj hn) h)
  refine P_iload0 (pc' := 17) dJ_Preconditions_checkIndex_16 rfl ?_
  refine P_iret dJ_Preconditions_checkIndex_17 ?_
  exact ⟨rfl, rfl, rfl⟩
theorem c_J_ci {G : GX} {S : Shp} {I : Mem} {d j n : Nat} (hG : (gFm G).category = 1) (hj : j < n) (hn : n < 2 ^ 31) (hd : 1 ≤ d) : PM G yJ_String_checkIndex cJ_String_checkIndex 2 none d 0 0 [.int (nI j), .int (nI n)] S I (Rv S I) := by
  refine PM.of (ls := [some (.int (nI j)), some (.int (nI n))]) (by decide) rfl (Nat.le_of_ble_eq_true rfl) rfl ?_
  show PW G "java/lang/String" "checkIndex" _ _ _ _ _ _ _ _ _ _ _ _
  refine P_iload0 (pc' := 1) dJ_String_checkIndex_0 rfl ?_
  refine P_iload1 (pc' := 2) dJ_String_checkIndex_1 rfl ?_
  refine P_fmt (pc' := 5) dJ_String_checkIndex_2 rfl fx_JString_1053 ?_
  refine P_callS3 (pc' := 8) dJ_String_checkIndex_5 rfl lk_JString_1059 (c_J_pci (d := 0) hG hj hn) (by omega) (Nat.le_of_ble_eq_true rfl) (fun r S' I' hq => ?_)
  obtain ⟨rfl, rfl, rfl⟩ := hq
  refine P_pop (pc' := 9) dJ_String_checkIndex_8 rfl rfl ?_
  refine P_vret dJ_String_checkIndex_9 ?_
  exact ⟨rfl, rfl, rfl⟩
theorem stB_c {i j : Nat} (hi : i < 6) (hj : j < stL i) : ((stB i j &&& 255).toUInt32 % 65536).toInt32 = stB i j ∧ narrow .char (.int (stB i j)) = .int (stB i j) := by
  have key : ∀ i, i < 6 → ∀ j, j < 4 → j < stL i → ((stB i j &&& 255).toUInt32 % 65536).toInt32 = stB i j ∧ narrow .char (.int (stB i j)) = .int (stB i j) := by decide
  have h4 : ∀ i, i < 6 → stL i ≤ 4 := by decide
  have := h4 i hi
  exact key i hi j (by omega) hj
theorem stL_4 {i : Nat} (hi : i < 6) : stL i ≤ 4 := by
  have key : ∀ i, i < 6 → stL i ≤ 4 := by decide
  exact key i hi
theorem c_J_lcharAt {G : GX} {S : Shp} {I : Mem} {d i j : Nat} (hG : (gFm G).category = 1) (hi : i < 6) (hj : j < stL i) (hd : 2 ≤ d) : PM G yJ_StringLatin1_charAt cJ_StringLatin1_charAt 2 (some .char) d 0 0 [.ref (1000008 + i), .int (nI j)] S I (Rm S I (stB i j)) := by
  have h4 := stL_4 hi
  refine PM.of (ls := [some (.ref (1000008 + i)), some (.int (nI j))]) (by decide) rfl (Nat.le_of_ble_eq_true rfl) rfl ?_
  show PW G "java/lang/StringLatin1" "charAt" _ _ _ _ _ _ _ _ _ _ _ _
  refine P_iload1 (pc' := 1) dJ_StringLatin1_charAt_0 rfl ?_
  refine P_aload0 (pc' := 2) dJ_StringLatin1_charAt_1 rfl ?_
  refine P_sbln (pc' := 3) dJ_StringLatin1_charAt_2 rfl hi ?_
  refine P_callS2 (pc' := 6) dJ_StringLatin1_charAt_3 rfl lk_JStringLatin1_9 (c_J_ci (d := 1) hG hj (by omega) (by omega)) (by omega) (Nat.le_of_ble_eq_true rfl) (fun r S' I' hq => ?_)
  obtain ⟨rfl, rfl, rfl⟩ := hq
  refine P_aload0 (pc' := 7) dJ_StringLatin1_charAt_6 rfl ?_
  refine P_iload1 (pc' := 8) dJ_StringLatin1_charAt_7 rfl ?_
  refine P_sbal (pc' := 9) dJ_StringLatin1_charAt_8 rfl hi rfl hj ?_
  refine P_sipush (pc' := 12) dJ_StringLatin1_charAt_9 rfl (v := 255) rfl ?_
  refine P_iand (pc' := 13) dJ_StringLatin1_charAt_12 rfl ?_
  refine P_i2c (pc' := 14) dJ_StringLatin1_charAt_13 rfl ?_
  refine P_as (stB_c hi hj).1 ?_
  refine P_cret dJ_StringLatin1_charAt_14 (stB_c hi hj).2 ?_
  exact ⟨rfl, rfl, rfl⟩
theorem c_J_charAt {G : GX} {S : Shp} {I : Mem} {d i j : Nat} (hG : (gFm G).category = 1) (hi : i < 6) (hj : j < stL i) (hd : 3 ≤ d) : PM G yJ_String_charAt cJ_String_charAt 2 (some .char) d 0 0 [.ref (1000002 + i), .int (nI j)] S I (Rm S I (stB i j)) := by
  refine PM.of (ls := [some (.ref (1000002 + i)), some (.int (nI j))]) (by decide) rfl (Nat.le_of_ble_eq_true rfl) rfl ?_
  show PW G "java/lang/String" "charAt" _ _ _ _ _ _ _ _ _ _ _ _
  refine P_aload0 (pc' := 1) dJ_String_charAt_0 rfl ?_
  refine P_callX (pc' := 4) (as := []) dJ_String_charAt_1 rfl lk_JString_492 hi (c_J_isLatin1 (d := 0) hi) rfl (by omega) rfl (Nat.le_of_ble_eq_true rfl) (fun r S' I' hq => ?_)
  obtain ⟨rfl, rfl, rfl⟩ := hq
  refine P_if_eq (tgt := 16) (pc' := 7) dJ_String_charAt_4 rfl rfl (fun h => absurd h (by decide)) (fun _ => ?_)
  refine P_aload0 (pc' := 8) dJ_String_charAt_7 rfl ?_
  refine P_sval (pc' := 11) dJ_String_charAt_8 rfl fx_JString_9 hi ?_
  refine P_iload1 (pc' := 12) dJ_String_charAt_11 rfl ?_
  refine P_callS2 (pc' := 15) dJ_String_charAt_12 rfl lk_JString_495 (c_J_lcharAt (d := 2) hG hi hj (by omega)) (by omega) (Nat.le_of_ble_eq_true rfl) (fun r S' I' hq => ?_)
  obtain ⟨rfl, rfl, rfl⟩ := hq
  refine P_cret dJ_String_charAt_15 (stB_c hi hj).2 ?_
  exact ⟨rfl, rfl, rfl⟩
theorem c_J_can {G : GX} {S : Shp} {I : Mem} {d c : Nat} (hc : c < 128) : PM G yJ_StringLatin1_canEncode cJ_StringLatin1_canEncode 1 (some .boolean) d 0 0 [.int (nI c)] S I (Rm S I 1) := by
  refine PM.of (ls := [some (.int (nI c))]) (by decide) rfl (Nat.le_of_ble_eq_true rfl) rfl ?_
  show PW G "java/lang/StringLatin1" "canEncode" _ _ _ _ _ _ _ _ _ _ _ _
  refine P_iload0 (pc' := 1) dJ_StringLatin1_canEncode_0 rfl ?_
  refine P_if_lt (tgt := 15) (pc' := 4) dJ_StringLatin1_canEncode_1 rfl rfl (fun h => absurd h (nI_pos (by omega))) (fun _ => ?_)
  refine P_iload0 (pc' := 5) dJ_StringLatin1_canEncode_4 rfl ?_
  refine P_sipush (pc' := 8) dJ_StringLatin1_canEncode_5 rfl (v := 255) rfl ?_
  refine P_icmp_gt (tgt := 15) (pc' := 11) dJ_StringLatin1_canEncode_8 rfl rfl (fun h => absurd h (Int32.not_lt.mpr (nI_le (b := 255) (by omega) (by decide)))) (fun _ => ?_)
  refine P_iconst (pc' := 12) dJ_StringLatin1_canEncode_11 rfl (v := 1) rfl ?_
  refine P_goto (tgt := 16) dJ_StringLatin1_canEncode_12 rfl ?_
  refine P_zret dJ_StringLatin1_canEncode_16 (Or.inr rfl) ?_
  exact ⟨rfl, rfl, rfl⟩
def ixV (i : Nat) (c : Int32) : Nat → Nat → Int32
  | 0, _ => -1
  | k + 1, j => if stB i j = c then nI j else ixV i c k (j + 1)
theorem ixV_s (i : Nat) (c : Int32) (k j : Nat) : ixV i c (k + 1) j = if stB i j = c then nI j else ixV i c k (j + 1) := rfl
theorem lp_J_ioc {G : GX} {S : Shp} {I : Mem} {d i : Nat} {ch f c v : Int32} (hi : i < 6) : ∀ (k j : Nat), j + k = stL i → ixV i c k j = v → PW G "java/lang/StringLatin1" "indexOfChar" cJ_StringLatin1_indexOfChar 6 (some .int) d 0 0 (Rm S I v) 7 [some (.ref (1000008 + i)), some (.int ch), some (.int f), some (.int (nI (stL i))), some (.int c), some (.int (nI j))] [] S I := by
  have h4 := stL_4 hi
  intro k
  induction k with
  | zero =>
    intro j hj hv
    have hv : (-1 : Int32) = v := hv
    refine P_iload5 (pc' := 9) dJ_StringLatin1_indexOfChar_7 rfl ?_
    refine P_iload3 (pc' := 10) dJ_StringLatin1_indexOfChar_9 rfl ?_
    refine P_icmp_ge (tgt := 31) (pc' := 13) dJ_StringLatin1_indexOfChar_10 rfl rfl (fun _ => ?_) (fun h => absurd (nI_le (by omega) (by omega)) h)
    refine P_iconst (pc' := 32) dJ_StringLatin1_indexOfChar_31 rfl (v := -1) rfl ?_
    refine P_iret dJ_StringLatin1_indexOfChar_32 ?_
    exact ⟨by rw [← hv], rfl, rfl⟩
  | succ k ih =>
    intro j hj hv
    rw [ixV_s] at hv
    refine P_iload5 (pc' := 9) dJ_StringLatin1_indexOfChar_7 rfl ?_
    refine P_iload3 (pc' := 10) dJ_StringLatin1_indexOfChar_9 rfl ?_
    refine P_icmp_ge (tgt := 31) (pc' := 13) dJ_StringLatin1_indexOfChar_10 rfl rfl (fun h => absurd h (nI_ge (by omega) (by omega))) (fun _ => ?_)
    refine P_aload0 (pc' := 14) dJ_StringLatin1_indexOfChar_13 rfl ?_
    refine P_iload5 (pc' := 16) dJ_StringLatin1_indexOfChar_14 rfl ?_
    refine P_sbal (pc' := 17) dJ_StringLatin1_indexOfChar_16 rfl hi rfl (by omega) ?_
    refine P_iload4 (pc' := 19) dJ_StringLatin1_indexOfChar_17 rfl ?_
    refine P_icmp_ne (tgt := 25) (pc' := 22) dJ_StringLatin1_indexOfChar_19 rfl rfl (fun h => ?_) (fun h => ?_)
    · refine P_iinc5 (pc' := 28) dJ_StringLatin1_indexOfChar_25 rfl (nI_1 j) (by decide) rfl ?_
      refine P_goto (tgt := 7) dJ_StringLatin1_indexOfChar_28 rfl ?_
      exact ih (j + 1) (by omega) (by rw [if_neg h] at hv; exact hv)
    · refine P_iload5 (pc' := 24) dJ_StringLatin1_indexOfChar_22 rfl ?_
      refine P_iret dJ_StringLatin1_indexOfChar_24 ?_
      rw [if_pos h] at hv
      exact ⟨by rw [← hv], rfl, rfl⟩
theorem i2b_n {c : Nat} (h : c < 128) : (nI c).toInt8.toInt32 = nI c := by
  have key : ∀ c, c < 128 → (nI c).toInt8.toInt32 = nI c := by decide +kernel
  exact key c h
theorem c_J_ioc {G : GX} {S : Shp} {I : Mem} {d i c : Nat} (hi : i < 6) (hc : c < 128) : PM G yJ_StringLatin1_indexOfChar cJ_StringLatin1_indexOfChar 6 (some .int) d 0 0 [.ref (1000008 + i), .int (nI c), .int 0, .int (nI (stL i))] S I (Rm S I (ixV i (nI c) (stL i) 0)) := by
  refine PM.of (ls := [some (.ref (1000008 + i)), some (.int (nI c)), some (.int 0), some (.int (nI (stL i))), none, none]) (by decide) rfl (Nat.le_of_ble_eq_true rfl) rfl ?_
  show PW G "java/lang/StringLatin1" "indexOfChar" _ _ _ _ _ _ _ _ _ _ _ _
  refine P_iload1 (pc' := 1) dJ_StringLatin1_indexOfChar_0 rfl ?_
  refine P_i2b (pc' := 2) dJ_StringLatin1_indexOfChar_1 rfl ?_
  refine P_as (i2b_n hc) ?_
  refine P_istore4 (pc' := 4) dJ_StringLatin1_indexOfChar_2 rfl (by decide) rfl ?_
  refine P_iload2 (pc' := 5) dJ_StringLatin1_indexOfChar_4 rfl ?_
  refine P_istore5 (pc' := 7) dJ_StringLatin1_indexOfChar_5 rfl (by decide) rfl ?_
  exact lp_J_ioc hi (stL i) 0 (by omega) rfl
theorem stL_1 {i : Nat} (hi : i < 6) : 1 ≤ stL i := by
  have key : ∀ i, i < 6 → 1 ≤ stL i := by decide
  exact key i hi
theorem c_J_io3 {G : GX} {S : Shp} {I : Mem} {d i c : Nat} (hi : i < 6) (hc : c < 128) (hd : 1 ≤ d) : PM G yJ_StringLatin1_indexOf3 cJ_StringLatin1_indexOf3 4 (some .int) d 0 0 [.ref (1000008 + i), .int (nI c), .int 0, .int (nI (stL i))] S I (Rm S I (ixV i (nI c) (stL i) 0)) := by
  have h4 := stL_4 hi
  have h1 := stL_1 hi
  refine PM.of (ls := [some (.ref (1000008 + i)), some (.int (nI c)), some (.int 0), some (.int (nI (stL i)))]) (by decide) rfl (Nat.le_of_ble_eq_true rfl) rfl ?_
  show PW G "java/lang/StringLatin1" "indexOf" _ _ _ _ _ _ _ _ _ _ _ _
  refine P_iload1 (pc' := 1) dJ_StringLatin1_indexOf3_0 rfl ?_
  refine P_callS1 (pc' := 4) dJ_StringLatin1_indexOf3_1 rfl lk_JStringLatin1_88 (c_J_can (d := 0) hc) (by omega) (Nat.le_of_ble_eq_true rfl) (fun r S' I' hq => ?_)
  obtain ⟨rfl, rfl, rfl⟩ := hq
  refine P_if_ne (tgt := 9) (pc' := 7) dJ_StringLatin1_indexOf3_4 rfl rfl (fun _ => ?_) (fun h => absurd h (by decide))
  refine P_iload2 (pc' := 10) dJ_StringLatin1_indexOf3_9 rfl ?_
  refine P_iconst (pc' := 11) dJ_StringLatin1_indexOf3_10 rfl (v := 0) rfl ?_
  refine P_max (pc' := 14) dJ_StringLatin1_indexOf3_11 rfl lk_JStringLatin1_92 (by omega) (Nat.le_of_ble_eq_true rfl) ?_
  refine P_as (y := 0) (by decide) ?_
  refine P_istore2 (pc' := 15) dJ_StringLatin1_indexOf3_14 rfl (by decide) rfl ?_
  refine P_iload3 (pc' := 16) dJ_StringLatin1_indexOf3_15 rfl ?_
  refine P_aload0 (pc' := 17) dJ_StringLatin1_indexOf3_16 rfl ?_
  refine P_sbln (pc' := 18) dJ_StringLatin1_indexOf3_17 rfl hi ?_
  refine P_min (pc' := 21) dJ_StringLatin1_indexOf3_18 rfl lk_JStringLatin1_38 (by omega) (Nat.le_of_ble_eq_true rfl) ?_
  refine P_as (y := nI (stL i)) (if_neg (nI_nlt (Nat.le_refl _) (by omega))) ?_
  refine P_istore3 (pc' := 22) dJ_StringLatin1_indexOf3_21 rfl (by decide) rfl ?_
  refine P_iload2 (pc' := 23) dJ_StringLatin1_indexOf3_22 rfl ?_
  refine P_iload3 (pc' := 24) dJ_StringLatin1_indexOf3_23 rfl ?_
  refine P_icmp_lt (tgt := 29) (pc' := 27) dJ_StringLatin1_indexOf3_24 rfl rfl (fun _ => ?_) (fun h => absurd (nI_lt (a := 0) h1 (by omega)) h)
  refine P_aload0 (pc' := 30) dJ_StringLatin1_indexOf3_29 rfl ?_
  refine P_iload1 (pc' := 31) dJ_StringLatin1_indexOf3_30 rfl ?_
  refine P_iload2 (pc' := 32) dJ_StringLatin1_indexOf3_31 rfl ?_
  refine P_iload3 (pc' := 33) dJ_StringLatin1_indexOf3_32 rfl ?_
  refine P_callS4 (pc' := 36) dJ_StringLatin1_indexOf3_33 rfl lk_JStringLatin1_95 (c_J_ioc (d := 0) hi hc) (by omega) (Nat.le_of_ble_eq_true rfl) (fun r S' I' hq => ?_)
  obtain ⟨rfl, rfl, rfl⟩ := hq
  refine P_iret dJ_StringLatin1_indexOf3_36 ?_
  exact ⟨rfl, rfl, rfl⟩
theorem c_J_io2 {G : GX} {S : Shp} {I : Mem} {d i c : Nat} (hi : i < 6) (hc : c < 128) (hd : 2 ≤ d) : PM G yJ_String_indexOf2 cJ_String_indexOf2 3 (some .int) d 0 0 [.ref (1000002 + i), .int (nI c), .int 0] S I (Rm S I (ixV i (nI c) (stL i) 0)) := by
  refine PM.of (ls := [some (.ref (1000002 + i)), some (.int (nI c)), some (.int 0)]) (by decide) rfl (Nat.le_of_ble_eq_true rfl) rfl ?_
  show PW G "java/lang/String" "indexOf" _ _ _ _ _ _ _ _ _ _ _ _
  refine P_aload0 (pc' := 1) dJ_String_indexOf2_0 rfl ?_
  refine P_callX (pc' := 4) (as := []) dJ_String_indexOf2_1 rfl lk_JString_492 hi (c_J_isLatin1 (d := 0) hi) rfl (by omega) rfl (Nat.le_of_ble_eq_true rfl) (fun r S' I' hq => ?_)
  obtain ⟨rfl, rfl, rfl⟩ := hq
  refine P_if_eq (tgt := 23) (pc' := 7) dJ_String_indexOf2_4 rfl rfl (fun h => absurd h (by decide)) (fun _ => ?_)
  refine P_aload0 (pc' := 8) dJ_String_indexOf2_7 rfl ?_
  refine P_sval (pc' := 11) dJ_String_indexOf2_8 rfl fx_JString_9 hi ?_
  refine P_iload1 (pc' := 12) dJ_String_indexOf2_11 rfl ?_
  refine P_iload2 (pc' := 13) dJ_String_indexOf2_12 rfl ?_
  refine P_aload0 (pc' := 14) dJ_String_indexOf2_13 rfl ?_
  refine P_callX (pc' := 17) (as := []) dJ_String_indexOf2_14 rfl lk_JString_505 hi (c_J_length (d := 1) hi (by omega)) rfl (by omega) rfl (Nat.le_of_ble_eq_true rfl) (fun r S' I' hq => ?_)
  obtain ⟨rfl, rfl, rfl⟩ := hq
  refine P_callS4 (pc' := 20) dJ_String_indexOf2_17 rfl lk_JString_637 (c_J_io3 (d := 1) hi hc (by omega)) (by omega) (Nat.le_of_ble_eq_true rfl) (fun r S' I' hq => ?_)
  obtain ⟨rfl, rfl, rfl⟩ := hq
  refine P_goto (tgt := 36) dJ_String_indexOf2_20 rfl ?_
  refine P_iret dJ_String_indexOf2_36 ?_
  exact ⟨rfl, rfl, rfl⟩
theorem c_J_io1 {G : GX} {S : Shp} {I : Mem} {d i c : Nat} (hi : i < 6) (hc : c < 128) (hd : 3 ≤ d) : PM G yJ_String_indexOf1 cJ_String_indexOf1 2 (some .int) d 0 0 [.ref (1000002 + i), .int (nI c)] S I (Rm S I (ixV i (nI c) (stL i) 0)) := by
  refine PM.of (ls := [some (.ref (1000002 + i)), some (.int (nI c))]) (by decide) rfl (Nat.le_of_ble_eq_true rfl) rfl ?_
  show PW G "java/lang/String" "indexOf" _ _ _ _ _ _ _ _ _ _ _ _
  refine P_aload0 (pc' := 1) dJ_String_indexOf1_0 rfl ?_
  refine P_iload1 (pc' := 2) dJ_String_indexOf1_1 rfl ?_
  refine P_iconst (pc' := 3) dJ_String_indexOf1_2 rfl (v := 0) rfl ?_
  refine P_callX (pc' := 6) (as := [.int (nI c), .int 0]) dJ_String_indexOf1_3 rfl lk_JString_633 hi (c_J_io2 (d := 2) hi hc (by omega)) rfl (by omega) rfl (Nat.le_of_ble_eq_true rfl) (fun r S' I' hq => ?_)
  obtain ⟨rfl, rfl, rfl⟩ := hq
  refine P_iret dJ_String_indexOf1_6 ?_
  exact ⟨rfl, rfl, rfl⟩
theorem c_X2_wordOf {G : GX} {S : Shp} {I : Mem} {d k : Nat} (hk : k ≤ 2) : PM G yX2_wordOf cX2_wordOf 1 (some (.object "java/lang/String")) d 0 0 [.int (nI k)] S I (fun r S' I' => r = some (.ref (1000002 + k)) ∧ S = S' ∧ I = I') := by
  refine PM.of (ls := [some (.int (nI k))]) (by decide) rfl (Nat.le_of_ble_eq_true rfl) rfl ?_
  show PW G RX2 "wordOf" _ _ _ _ _ _ _ _ _ _ _ _
  have key : k = 0 ∨ k = 1 ∨ k = 2 := by omega
  rcases key with rfl | rfl | rfl
  · skip
    refine P_iload0 (pc' := 1) dX2_wordOf_0 rfl ?_
    refine P_if_ne (tgt := 9) (pc' := 4) dX2_wordOf_1 rfl rfl (fun h1 => ?_) (fun h1 => ?_)
    · exact absurd rfl h1
    · refine P_ldS (i := 0) (fun _ _ h => h.2.2.2.2.2.2.1.1) (pc' := 6) dX2_wordOf_4 rfl ?_
      refine P_goto (tgt := 21) dX2_wordOf_6 rfl ?_
      refine P_aret dX2_wordOf_21 ?_
      exact ⟨rfl, rfl, rfl⟩
  · skip
    refine P_iload0 (pc' := 1) dX2_wordOf_0 rfl ?_
    refine P_if_ne (tgt := 9) (pc' := 4) dX2_wordOf_1 rfl rfl (fun h1 => ?_) (fun h1 => ?_)
    · refine P_iload0 (pc' := 10) dX2_wordOf_9 rfl ?_
      refine P_iconst (pc' := 11) dX2_wordOf_10 rfl (v := 1) rfl ?_
      refine P_icmp_ne (tgt := 19) (pc' := 14) dX2_wordOf_11 rfl rfl (fun h11 => ?_) (fun h11 => ?_)
      · exact absurd rfl h11
      · refine P_ldS (i := 1) (fun _ _ h => h.2.2.2.2.2.2.1.2.1) (pc' := 16) dX2_wordOf_14 rfl ?_
        refine P_goto (tgt := 21) dX2_wordOf_16 rfl ?_
        refine P_aret dX2_wordOf_21 ?_
        exact ⟨rfl, rfl, rfl⟩
    · exact absurd h1 (by decide)
  · skip
    refine P_iload0 (pc' := 1) dX2_wordOf_0 rfl ?_
    refine P_if_ne (tgt := 9) (pc' := 4) dX2_wordOf_1 rfl rfl (fun h1 => ?_) (fun h1 => ?_)
    · refine P_iload0 (pc' := 10) dX2_wordOf_9 rfl ?_
      refine P_iconst (pc' := 11) dX2_wordOf_10 rfl (v := 1) rfl ?_
      refine P_icmp_ne (tgt := 19) (pc' := 14) dX2_wordOf_11 rfl rfl (fun h11 => ?_) (fun h11 => ?_)
      · refine P_ldS (i := 2) (fun _ _ h => h.2.2.2.2.2.2.1.2.2.1) (pc' := 21) dX2_wordOf_19 rfl ?_
        refine P_aret dX2_wordOf_21 ?_
        exact ⟨rfl, rfl, rfl⟩
      · exact absurd h11 (by decide)
    · exact absurd h1 (by decide)
theorem c_X2_namesOf {G : GX} {S : Shp} {I : Mem} {d k : Nat} (hk : k ≤ 2) : PM G yX2_namesOf cX2_namesOf 1 (some (.object "java/lang/String")) d 0 0 [.int (nI k)] S I (fun r S' I' => r = some (.ref (1000002 + (3 + k))) ∧ S = S' ∧ I = I') := by
  refine PM.of (ls := [some (.int (nI k))]) (by decide) rfl (Nat.le_of_ble_eq_true rfl) rfl ?_
  show PW G RX2 "namesOf" _ _ _ _ _ _ _ _ _ _ _ _
  have key : k = 0 ∨ k = 1 ∨ k = 2 := by omega
  rcases key with rfl | rfl | rfl
  · skip
    refine P_iload0 (pc' := 1) dX2_namesOf_0 rfl ?_
    refine P_if_ne (tgt := 9) (pc' := 4) dX2_namesOf_1 rfl rfl (fun h1 => ?_) (fun h1 => ?_)
    · exact absurd rfl h1
    · refine P_ldS (i := 3) (fun _ _ h => h.2.2.2.2.2.2.1.2.2.2.1) (pc' := 6) dX2_namesOf_4 rfl ?_
      refine P_goto (tgt := 21) dX2_namesOf_6 rfl ?_
      refine P_aret dX2_namesOf_21 ?_
      exact ⟨rfl, rfl, rfl⟩
  · skip
    refine P_iload0 (pc' := 1) dX2_namesOf_0 rfl ?_
    refine P_if_ne (tgt := 9) (pc' := 4) dX2_namesOf_1 rfl rfl (fun h1 => ?_) (fun h1 => ?_)
    · refine P_iload0 (pc' := 10) dX2_namesOf_9 rfl ?_
      refine P_iconst (pc' := 11) dX2_namesOf_10 rfl (v := 1) rfl ?_
      refine P_icmp_ne (tgt := 19) (pc' := 14) dX2_namesOf_11 rfl rfl (fun h11 => ?_) (fun h11 => ?_)
      · exact absurd rfl h11
      · refine P_ldS (i := 4) (fun _ _ h => h.2.2.2.2.2.2.1.2.2.2.2.1) (pc' := 16) dX2_namesOf_14 rfl ?_
        refine P_goto (tgt := 21) dX2_namesOf_16 rfl ?_
        refine P_aret dX2_namesOf_21 ?_
        exact ⟨rfl, rfl, rfl⟩
    · exact absurd h1 (by decide)
  · skip
    refine P_iload0 (pc' := 1) dX2_namesOf_0 rfl ?_
    refine P_if_ne (tgt := 9) (pc' := 4) dX2_namesOf_1 rfl rfl (fun h1 => ?_) (fun h1 => ?_)
    · refine P_iload0 (pc' := 10) dX2_namesOf_9 rfl ?_
      refine P_iconst (pc' := 11) dX2_namesOf_10 rfl (v := 1) rfl ?_
      refine P_icmp_ne (tgt := 19) (pc' := 14) dX2_namesOf_11 rfl rfl (fun h11 => ?_) (fun h11 => ?_)
      · refine P_ldS (i := 5) (fun _ _ h => h.2.2.2.2.2.2.1.2.2.2.2.2) (pc' := 21) dX2_namesOf_19 rfl ?_
        refine P_aret dX2_namesOf_21 ?_
        exact ⟨rfl, rfl, rfl⟩
      · exact absurd h11 (by decide)
    · exact absurd h1 (by decide)

