def nNot : List Int32 → Prop
  | [] => True
  | z :: Z => z = -11 ∨ (z ≠ -10 ∧ nNot Z)
def wfZ : List Int32 → Prop
  | [] => True
  | z :: Z => wfZ Z ∧ (z = -10 ∨ z = -11 ∨ nNot Z)
theorem stl_wf (r : Nat) : ∀ (Z C : List Int32), wfZ Z → wfZ (stl r Z C).1 := by
  intro Z
  induction Z with
  | nil => intro C _; trivial
  | cons z Z ih =>
    intro C h
    rw [stl_s]
    split
    · exact h
    · split
      · exact ih _ h.1
      · exact h
theorem stl_11 (r : Nat) : ∀ (Z C : List Int32), cnt (-11) (stl r Z C).1 = cnt (-11) Z := by
  intro Z
  induction Z with
  | nil => intro C; rfl
  | cons z Z ih =>
    intro C
    rw [stl_s]
    split
    · rfl
    · rename_i z1
      split
      · rw [ih, cnt_s, if_neg z1, Nat.zero_add]
      · rfl
theorem stl_nn (r : Nat) : ∀ (Z C : List Int32), nNot Z → nNot (stl r Z C).1 ∧ cnt (-10) (stl r Z C).1 = cnt (-10) Z := by
  intro Z
  induction Z with
  | nil => intro C h; exact ⟨h, rfl⟩
  | cons z Z ih =>
    intro C h
    rw [stl_s]
    split
    · exact ⟨h, rfl⟩
    · rename_i z1
      split
      · rcases h with h | ⟨h1, h2⟩
        · exact absurd h z1
        · obtain ⟨a, c⟩ := ih (C ++ [z]) h2
          exact ⟨a, by rw [c, cnt_s, if_neg h1, Nat.zero_add]⟩
      · exact ⟨h, rfl⟩
theorem stl_6n : ∀ (Z C : List Int32), wfZ Z → nNot (stl 6 Z C).1 := by
  intro Z
  induction Z with
  | nil => intro C _; trivial
  | cons z Z ih =>
    intro C h
    rw [stl_s]
    split
    · rename_i z1; exact Or.inl z1
    · rename_i z1
      split
      · exact ih _ h.1
      · rename_i z2
        have z3 : z ≠ -10 := fun e => by rw [e, rk_10] at z2; omega
        refine Or.inr ⟨z3, ?_⟩
        rcases h.2 with g | g | g
        · exact absurd g z3
        · exact absurd g z1
        · exact g
theorem stl_0o : ∀ (Z C : List Int32), 0 < cnt (-11) Z → ∃ Z', (stl 0 Z C).1 = -11 :: Z' := by
  intro Z
  induction Z with
  | nil => intro C h; exact absurd h (by show ¬ 0 < 0; omega)
  | cons z Z ih =>
    intro C h
    rw [stl_s]
    split
    · rename_i z1; exact ⟨Z, by rw [z1]⟩
    · rename_i z1
      rw [if_pos (Nat.zero_le _)]
      refine ih _ ?_
      rw [cnt_s, if_neg z1, Nat.zero_add] at h
      exact h
theorem cnt_le (c : Int32) : ∀ (Z : List Int32), cnt c Z ≤ Z.length := by
  intro Z
  induction Z with
  | nil => exact Nat.le_refl _
  | cons z Z ih =>
    rw [cnt_s]
    show _ ≤ Z.length + 1
    split <;> omega
/-! a part -/
def FrP (I J : Mem) : Prop := (∀ y, y ≠ 55 → y ≠ 63 → J y = I y) ∧ ∀ k, (k < 7 ∨ (11 < k ∧ k ≠ 16 ∧ k ≠ 17 ∧ k ≠ 19)) → J 55 k = I 55 k
theorem GoI.mv {b : Nat → Int32} {n : Nat} {x : Lx} {I J : Mem} (h : GoI b n x I) (h60 : J 60 = I 60) (hk : ∀ k, k = 6 ∨ (7 ≤ k ∧ k ≤ 11) → J 55 k = I 55 k) : GoI b n x J := by
  obtain ⟨⟨a1, a2⟩, a3, a4, a5⟩ := h
  exact ⟨⟨by rw [hk 6 (by omega)]; exact a1, a2.mv h60⟩, by rw [hk 7 (by omega)]; exact a3, fun z => by rw [hk 11 (by omega)]; exact a4 z, fun z => by rw [hk 11 (by omega)]; exact a5 z⟩
theorem GoR.mv {b : Nat → Int32} {n : Nat} {x : Lx} {I J : Mem} (h : GoR b n x I) (h60 : J 60 = I 60) (hk : ∀ k, k = 6 ∨ (7 ≤ k ∧ k ≤ 11) → J 55 k = I 55 k) : GoR b n x J := by
  obtain ⟨a1, a2, a3, a4, a5⟩ := h
  exact ⟨a1.mv h60 hk, by rw [hk 8 (by omega)]; exact a2, by rw [hk 9 (by omega)]; exact a3, fun z => by rw [hk 10 (by omega), h60]; exact a4 z, fun z y => by rw [hk 10 (by omega)]; exact a5 z y⟩
def PaQ (key : Nat) (b : Nat → Int32) (n : Nat) (x : Lx) (C Z : List Int32) (a : Nat) (S : Shp) (I : Mem) : Option Value → Shp → Mem → Prop := fun r S' J => S = S' ∧ match prt key b x with
  | none => r = some (.int 0) ∧ J = I
  | some v => r = some (.int 1) ∧ GoR b n (advL b n x) J ∧ CR (stl 6 Z (C ++ [v])).2 J ∧ ZR (stl 6 Z (C ++ [v])).1 J ∧ J 55 17 = nI (a + 1) ∧ FrP I J
theorem c_X9_takesPart {G : GX} {S : Shp} {I : Mem} {b : Nat → Int32} {d n key a : Nat} {x : Lx} {C Z : List Int32} (hsh : SHP S) (hn : n ≤ 96) (hk2 : key ≤ 2) (hx : WOk b n x) (h : GoR b n x I) (h12 : I 55 12 = nI key) (hC : CR C I) (hZ : ZR Z I) (h17 : I 55 17 = nI a) (hl : C.length + Z.length ≤ x.2.1) (hd : 3 ≤ d) : PM G yX9_takesPart cX9_takesPart 2 (some .boolean) d 0 0 [.ref 55] S I (PaQ key b n x C Z a S I) := by
  obtain ⟨⟨⟨h6, hb⟩, h7, hE1, hE3⟩, h8, h9, h10, h10n⟩ := id h
  have x4 := hx.1
  have x2 := hx.2.1
  have x3 := hx.2.2.1
  have k87 : ∀ (v : Int32) (l1 : Option Value), prt key b x = some v → (x.1 = 1 ∨ x.1 = 2) → PW G RX9 "takesPart" cX9_takesPart 2 (some .boolean) d 0 0 (PaQ key b n x C Z a S I) 87 [some (.ref 55), l1] [.int v, .int (nI C.length), .ref 63] S I := by
    intro v l1 hp h12'
    have lt := hx.2.2.2.1 (by omega)
    have hC1 : CR (C ++ [v]) (u2 (u2 (u2 I 63 C.length v) 55 16 (nI (C.length + 1))) 55 17 (nI (a + 1))) := hC.add (by rw [u2_k (by decide), u2_s]) (fun k => by
      rw [u2_a (by decide), u2_a (by decide)]
      by_cases q : k = C.length
      · rw [if_pos q, q, u2_s]
      · rw [if_neg q, u2_k q])
    have hZ1 : ZR Z (u2 (u2 (u2 I 63 C.length v) 55 16 (nI (C.length + 1))) 55 17 (nI (a + 1))) := ⟨by rw [u2_k (by decide), u2_k (by decide), u2_a (by decide)]; exact hZ.1, hZ.2.cg (fun k _ => by rw [u2_a (by decide), u2_a (by decide), u2_a (by decide)])⟩
    refine P_iast (pc' := 88) dX9_takesPart_87 rfl (l_63 hsh) (t_63 hsh) (j := C.length) rfl (by omega) (by decide) ?_
    refine P_aload0 (pc' := 89) dX9_takesPart_88 rfl ?_
    refine P_dup (pc' := 90) dX9_takesPart_89 rfl rfl ?_
    refine P_geti (pc' := 93) dX9_takesPart_90 rfl fl_X9_216 rfl (l_55 hsh) (t_55 hsh) ?_
    refine P_as (y := nI C.length) (by rw [u2_a (by decide)]; exact hC.1) ?_
    refine P_iconst (pc' := 94) dX9_takesPart_93 rfl (v := 1) rfl ?_
    refine P_iadd (pc' := 95) dX9_takesPart_94 rfl ?_
    refine P_as (nI_1 _) ?_
    refine P_puti (pc' := 98) dX9_takesPart_95 rfl fl_X9_216 rfl (l_55 hsh) (t_55 hsh) ?_
    refine P_aload0 (pc' := 99) dX9_takesPart_98 rfl ?_
    refine P_dup (pc' := 100) dX9_takesPart_99 rfl rfl ?_
    refine P_geti (pc' := 103) dX9_takesPart_100 rfl fl_X9_222 rfl (l_55 hsh) (t_55 hsh) ?_
    refine P_as (y := nI a) (by rw [u2_k (by decide), u2_a (by decide)]; exact h17) ?_
    refine P_iconst (pc' := 104) dX9_takesPart_103 rfl (v := 1) rfl ?_
    refine P_iadd (pc' := 105) dX9_takesPart_104 rfl ?_
    refine P_as (nI_1 _) ?_
    refine P_puti (pc' := 108) dX9_takesPart_105 rfl fl_X9_222 rfl (l_55 hsh) (t_55 hsh) ?_
    refine P_aload0 (pc' := 109) dX9_takesPart_108 rfl ?_
    refine P_bipush (pc' := 111) dX9_takesPart_109 rfl (v := 6) rfl ?_
    refine P_callV1 (pc' := 114) dX9_takesPart_111 rfl lk_X9_225 (l_55 hsh) (t_55 hsh) (c_X9_settle (d := 1) (r := 6) hsh hC1 hZ1 (by rw [List.length_append]; show C.length + 1 + Z.length ≤ 96; omega) (by decide) (by omega)) (by omega) (Nat.le_of_ble_eq_true rfl) (fun r S2 I2 hq => ?_)
    obtain ⟨rfl, rfl, c2, z2, f2⟩ := hq
    refine P_aload0 (pc' := 115) dX9_takesPart_114 rfl ?_
    refine P_callV0 (pc' := 118) dX9_takesPart_115 rfl lk_X9_207 (l_55 hsh) (t_55 hsh) (c_X9_go (d := 1) (b := b) (n := n) (x := x) hsh hn x3 (by omega) (GoI.mv h.1 (by rw [f2.1 60 (by decide) (by decide), u2_row (by decide), u2_row (by decide), u2_row (by decide)]) (fun k hk => by rw [f2.2 k (by omega) (by omega), u2_k (by omega), u2_k (by omega), u2_a (by decide)])) (by omega)) (by omega) (Nat.le_of_ble_eq_true rfl) (fun r S3 I3 hq => ?_)
    obtain ⟨rfl, rfl, g3, f3⟩ := hq
    refine P_iconst (pc' := 119) dX9_takesPart_118 rfl (v := 1) rfl ?_
    refine P_zret dX9_takesPart_119 (by first | exact Or.inl rfl | exact Or.inr rfl) ?_
    refine ⟨rfl, ?_⟩
    rw [hp]
    refine ⟨rfl, g3, ⟨by rw [f3.2 16 (by omega)]; exact c2.1, fun k hk => by rw [f3.1 63 (by decide)]; exact c2.2 k hk⟩, ⟨by rw [f3.2 19 (by omega)]; exact z2.1, by rw [f3.1 64 (by decide)]; exact z2.2⟩, by rw [f3.2 17 (by omega), f2.2 17 (by decide) (by decide), u2_s], fun y y1 y2 => ?_, fun k hk => ?_⟩
    · rw [f3.1 y y1, f2.1 y y1 y2, u2_row y1, u2_row y1, u2_row y2]
    · rw [f3.2 k (by omega), f2.2 k (by omega) (by omega), u2_k (by omega), u2_k (by omega), u2_a (by decide)]
  have out : prt key b x = none → PaQ key b n x C Z a S I (some (.int 0)) S I := fun z => ⟨rfl, by rw [z]; exact ⟨rfl, rfl⟩⟩
  refine PM.of (ls := [some (.ref 55), none]) (by decide) rfl (Nat.le_of_ble_eq_true rfl) rfl ?_
  show PW G RX9 "takesPart" _ _ _ _ _ _ _ _ _ _ _ _
  have kd : x.1 = 1 ∨ x.1 = 2 ∨ (x.1 ≠ 1 ∧ x.1 ≠ 2) := by omega
  rcases kd with q | q | q
  · have e9 : I 55 9 = 1 := by rw [h9, tk_1.mpr q]; rfl
    have lt := hx.2.2.2.1 (Or.inl q)
    have es : nI x.2.2 - nI x.2.1 = nI (x.2.2 - x.2.1) := pk_sub (by omega)
    have ev : I 55 10 = b x.2.1 := by
      rw [h10 (Or.inl q)]
      exact (hb _ (by omega)).pos (Int32.le_trans (by decide) (hx.2.2.2.2.2 q).1)
    by_cases ql : x.2.2 - x.2.1 = 1
    · cases hm : nmO key (b x.2.1) with
      | none =>
        have ep : prt key b x = none := by unfold prt; rw [if_neg (by omega), if_pos q, if_pos ql, hm]; rfl
        refine P_aload0 (pc' := 1) dX9_takesPart_0 rfl ?_
        refine P_geti (pc' := 4) dX9_takesPart_1 rfl fl_X9_192 rfl (l_55 hsh) (t_55 hsh) ?_
        refine P_as e9 ?_
        refine P_iconst (pc' := 5) dX9_takesPart_4 rfl (v := 1) rfl ?_
        refine P_icmp_ne (tgt := 36) (pc' := 8) dX9_takesPart_5 rfl rfl (fun h5 => ?_) (fun h5 => ?_)
        · exact absurd rfl h5
        · refine P_aload0 (pc' := 9) dX9_takesPart_8 rfl ?_
          refine P_geti (pc' := 12) dX9_takesPart_9 rfl fl_X9_183 rfl (l_55 hsh) (t_55 hsh) ?_
          refine P_as h7 ?_
          refine P_aload0 (pc' := 13) dX9_takesPart_12 rfl ?_
          refine P_geti (pc' := 16) dX9_takesPart_13 rfl fl_X9_186 rfl (l_55 hsh) (t_55 hsh) ?_
          refine P_as h8 ?_
          refine P_isub (pc' := 17) dX9_takesPart_16 rfl ?_
          refine P_as (es.trans (by rw [ql])) ?_
          refine P_iconst (pc' := 18) dX9_takesPart_17 rfl (v := 1) rfl ?_
          refine P_icmp_ne (tgt := 36) (pc' := 21) dX9_takesPart_18 rfl rfl (fun h18 => ?_) (fun h18 => ?_)
          · exact absurd rfl h18
          · refine P_aload0 (pc' := 22) dX9_takesPart_21 rfl ?_
            refine P_aload0 (pc' := 23) dX9_takesPart_22 rfl ?_
            refine P_geti (pc' := 26) dX9_takesPart_23 rfl fl_X9_198 rfl (l_55 hsh) (t_55 hsh) ?_
            refine P_as ev ?_
            refine P_callV1 (pc' := 29) dX9_takesPart_26 rfl lk_X9_219 (l_55 hsh) (t_55 hsh) (c_X9_nameOf (d := 0) hsh h12 hk2) (by omega) (Nat.le_of_ble_eq_true rfl) (fun r S' I' hq => ?_)
            obtain ⟨rfl, rfl, rfl⟩ := hq
            refine P_as (y := -1) (by rw [hm]; rfl) ?_
            refine P_if_lt (tgt := 36) (pc' := 32) dX9_takesPart_29 rfl rfl (fun h29 => ?_) (fun h29 => ?_)
            · refine P_iconst (pc' := 37) dX9_takesPart_36 rfl (v := 0) rfl ?_
              refine P_istore1 (pc' := 38) dX9_takesPart_37 rfl (by decide) rfl ?_
              refine P_aload0 (pc' := 39) dX9_takesPart_38 rfl ?_
              refine P_geti (pc' := 42) dX9_takesPart_39 rfl fl_X9_192 rfl (l_55 hsh) (t_55 hsh) ?_
              refine P_as e9 ?_
              refine P_iconst (pc' := 43) dX9_takesPart_42 rfl (v := 2) rfl ?_
              refine P_icmp_eq (tgt := 52) (pc' := 46) dX9_takesPart_43 rfl rfl (fun h43 => ?_) (fun h43 => ?_)
              · exact absurd h43 (by decide)
              · refine P_iload1 (pc' := 47) dX9_takesPart_46 rfl ?_
                refine P_if_ne (tgt := 52) (pc' := 50) dX9_takesPart_47 rfl rfl (fun h47 => ?_) (fun h47 => ?_)
                · exact absurd rfl h47
                · refine P_iconst (pc' := 51) dX9_takesPart_50 rfl (v := 0) rfl ?_
                  refine P_zret dX9_takesPart_51 (by first | exact Or.inl rfl | exact Or.inr rfl) ?_
                  exact out ep
            · exact absurd (by decide) h29
      | some j =>
        obtain ⟨j3, -⟩ := nmO_b hm
        have ep : prt key b x = some (nI (10000 + j)) := by unfold prt; rw [if_neg (by omega), if_pos q, if_pos ql, hm]; rfl
        have ea : (10000 : Int32) + nI j = nI (10000 + j) := nI_add 10000 j
        refine P_aload0 (pc' := 1) dX9_takesPart_0 rfl ?_
        refine P_geti (pc' := 4) dX9_takesPart_1 rfl fl_X9_192 rfl (l_55 hsh) (t_55 hsh) ?_
        refine P_as e9 ?_
        refine P_iconst (pc' := 5) dX9_takesPart_4 rfl (v := 1) rfl ?_
        refine P_icmp_ne (tgt := 36) (pc' := 8) dX9_takesPart_5 rfl rfl (fun h5 => ?_) (fun h5 => ?_)
        · exact absurd rfl h5
        · refine P_aload0 (pc' := 9) dX9_takesPart_8 rfl ?_
          refine P_geti (pc' := 12) dX9_takesPart_9 rfl fl_X9_183 rfl (l_55 hsh) (t_55 hsh) ?_
          refine P_as h7 ?_
          refine P_aload0 (pc' := 13) dX9_takesPart_12 rfl ?_
          refine P_geti (pc' := 16) dX9_takesPart_13 rfl fl_X9_186 rfl (l_55 hsh) (t_55 hsh) ?_
          refine P_as h8 ?_
          refine P_isub (pc' := 17) dX9_takesPart_16 rfl ?_
          refine P_as (es.trans (by rw [ql])) ?_
          refine P_iconst (pc' := 18) dX9_takesPart_17 rfl (v := 1) rfl ?_
          refine P_icmp_ne (tgt := 36) (pc' := 21) dX9_takesPart_18 rfl rfl (fun h18 => ?_) (fun h18 => ?_)
          · exact absurd rfl h18
          · refine P_aload0 (pc' := 22) dX9_takesPart_21 rfl ?_
            refine P_aload0 (pc' := 23) dX9_takesPart_22 rfl ?_
            refine P_geti (pc' := 26) dX9_takesPart_23 rfl fl_X9_198 rfl (l_55 hsh) (t_55 hsh) ?_
            refine P_as ev ?_
            refine P_callV1 (pc' := 29) dX9_takesPart_26 rfl lk_X9_219 (l_55 hsh) (t_55 hsh) (c_X9_nameOf (d := 0) hsh h12 hk2) (by omega) (Nat.le_of_ble_eq_true rfl) (fun r S' I' hq => ?_)
            obtain ⟨rfl, rfl, rfl⟩ := hq
            refine P_as (y := nI j) (by rw [hm]; rfl) ?_
            refine P_if_lt (tgt := 36) (pc' := 32) dX9_takesPart_29 rfl rfl (fun h29 => ?_) (fun h29 => ?_)
            · exact absurd h29 (nI_pos (by omega))
            · refine P_iconst (pc' := 33) dX9_takesPart_32 rfl (v := 1) rfl ?_
              refine P_goto (tgt := 37) dX9_takesPart_33 rfl ?_
              refine P_istore1 (pc' := 38) dX9_takesPart_37 rfl (by decide) rfl ?_
              refine P_aload0 (pc' := 39) dX9_takesPart_38 rfl ?_
              refine P_geti (pc' := 42) dX9_takesPart_39 rfl fl_X9_192 rfl (l_55 hsh) (t_55 hsh) ?_
              refine P_as e9 ?_
              refine P_iconst (pc' := 43) dX9_takesPart_42 rfl (v := 2) rfl ?_
              refine P_icmp_eq (tgt := 52) (pc' := 46) dX9_takesPart_43 rfl rfl (fun h43 => ?_) (fun h43 => ?_)
              · exact absurd h43 (by decide)
              · refine P_iload1 (pc' := 47) dX9_takesPart_46 rfl ?_
                refine P_if_ne (tgt := 52) (pc' := 50) dX9_takesPart_47 rfl rfl (fun h47 => ?_) (fun h47 => ?_)
                · refine P_aload0 (pc' := 53) dX9_takesPart_52 rfl ?_
                  refine P_getr (pc' := 56) dX9_takesPart_53 rfl fl_X9_32 rfl (l_55 hsh) (t_55 hsh) (q_55_15 hsh) ?_
                  refine P_aload0 (pc' := 57) dX9_takesPart_56 rfl ?_
                  refine P_geti (pc' := 60) dX9_takesPart_57 rfl fl_X9_216 rfl (l_55 hsh) (t_55 hsh) ?_
                  refine P_as hC.1 ?_
                  refine P_aload0 (pc' := 61) dX9_takesPart_60 rfl ?_
                  refine P_geti (pc' := 64) dX9_takesPart_61 rfl fl_X9_192 rfl (l_55 hsh) (t_55 hsh) ?_
                  refine P_as e9 ?_
                  refine P_iconst (pc' := 65) dX9_takesPart_64 rfl (v := 2) rfl ?_
                  refine P_icmp_ne (tgt := 75) (pc' := 68) dX9_takesPart_65 rfl rfl (fun h65 => ?_) (fun h65 => ?_)
                  · refine P_sipush (pc' := 78) dX9_takesPart_75 rfl (v := 10000) rfl ?_
                    refine P_aload0 (pc' := 79) dX9_takesPart_78 rfl ?_
                    refine P_aload0 (pc' := 80) dX9_takesPart_79 rfl ?_
                    refine P_geti (pc' := 83) dX9_takesPart_80 rfl fl_X9_198 rfl (l_55 hsh) (t_55 hsh) ?_
                    refine P_as ev ?_
                    refine P_callV1 (pc' := 86) dX9_takesPart_83 rfl lk_X9_219 (l_55 hsh) (t_55 hsh) (c_X9_nameOf (d := 0) hsh h12 hk2) (by omega) (Nat.le_of_ble_eq_true rfl) (fun r S' I' hq => ?_)
                    obtain ⟨rfl, rfl, rfl⟩ := hq
                    refine P_as (y := nI j) (by rw [hm]; rfl) ?_
                    refine P_iadd (pc' := 87) dX9_takesPart_86 rfl ?_
                    refine P_as ea ?_
                    exact k87 _ _ ep (Or.inl q)
                  · exact absurd h65 (by decide)
                · exact absurd h47 (by decide)
    · have ep : prt key b x = none := by unfold prt; rw [if_neg (by omega), if_pos q, if_neg ql]
      refine P_aload0 (pc' := 1) dX9_takesPart_0 rfl ?_
      refine P_geti (pc' := 4) dX9_takesPart_1 rfl fl_X9_192 rfl (l_55 hsh) (t_55 hsh) ?_
      refine P_as e9 ?_
      refine P_iconst (pc' := 5) dX9_takesPart_4 rfl (v := 1) rfl ?_
      refine P_icmp_ne (tgt := 36) (pc' := 8) dX9_takesPart_5 rfl rfl (fun h5 => ?_) (fun h5 => ?_)
      · exact absurd rfl h5
      · refine P_aload0 (pc' := 9) dX9_takesPart_8 rfl ?_
        refine P_geti (pc' := 12) dX9_takesPart_9 rfl fl_X9_183 rfl (l_55 hsh) (t_55 hsh) ?_
        refine P_as h7 ?_
        refine P_aload0 (pc' := 13) dX9_takesPart_12 rfl ?_
        refine P_geti (pc' := 16) dX9_takesPart_13 rfl fl_X9_186 rfl (l_55 hsh) (t_55 hsh) ?_
        refine P_as h8 ?_
        refine P_isub (pc' := 17) dX9_takesPart_16 rfl ?_
        refine P_as es ?_
        refine P_iconst (pc' := 18) dX9_takesPart_17 rfl (v := 1) rfl ?_
        refine P_icmp_ne (tgt := 36) (pc' := 21) dX9_takesPart_18 rfl rfl (fun h18 => ?_) (fun h18 => ?_)
        · refine P_iconst (pc' := 37) dX9_takesPart_36 rfl (v := 0) rfl ?_
          refine P_istore1 (pc' := 38) dX9_takesPart_37 rfl (by decide) rfl ?_
          refine P_aload0 (pc' := 39) dX9_takesPart_38 rfl ?_
          refine P_geti (pc' := 42) dX9_takesPart_39 rfl fl_X9_192 rfl (l_55 hsh) (t_55 hsh) ?_
          refine P_as e9 ?_
          refine P_iconst (pc' := 43) dX9_takesPart_42 rfl (v := 2) rfl ?_
          refine P_icmp_eq (tgt := 52) (pc' := 46) dX9_takesPart_43 rfl rfl (fun h43 => ?_) (fun h43 => ?_)
          · exact absurd h43 (by decide)
          · refine P_iload1 (pc' := 47) dX9_takesPart_46 rfl ?_
            refine P_if_ne (tgt := 52) (pc' := 50) dX9_takesPart_47 rfl rfl (fun h47 => ?_) (fun h47 => ?_)
            · exact absurd rfl h47
            · refine P_iconst (pc' := 51) dX9_takesPart_50 rfl (v := 0) rfl ?_
              refine P_zret dX9_takesPart_51 (by first | exact Or.inl rfl | exact Or.inr rfl) ?_
              exact out ep
        · exact absurd ((nI_eq (b := 1) (by omega) (by decide)).mp h18) ql
  · by_cases ql : x.2.2 - x.2.1 ≤ 4
    · have e9 : I 55 9 = 2 := by rw [h9]; unfold tk; rw [if_neg (by omega), q]; rfl
      have ep : prt key b x = some (nmb b (x.2.2 - x.2.1) x.2.1 0) := by unfold prt; rw [if_pos q, if_pos ql]
      refine P_aload0 (pc' := 1) dX9_takesPart_0 rfl ?_
      refine P_geti (pc' := 4) dX9_takesPart_1 rfl fl_X9_192 rfl (l_55 hsh) (t_55 hsh) ?_
      refine P_as e9 ?_
      refine P_iconst (pc' := 5) dX9_takesPart_4 rfl (v := 1) rfl ?_
      refine P_icmp_ne (tgt := 36) (pc' := 8) dX9_takesPart_5 rfl rfl (fun h5 => ?_) (fun h5 => ?_)
      · refine P_iconst (pc' := 37) dX9_takesPart_36 rfl (v := 0) rfl ?_
        refine P_istore1 (pc' := 38) dX9_takesPart_37 rfl (by decide) rfl ?_
        refine P_aload0 (pc' := 39) dX9_takesPart_38 rfl ?_
        refine P_geti (pc' := 42) dX9_takesPart_39 rfl fl_X9_192 rfl (l_55 hsh) (t_55 hsh) ?_
        refine P_as e9 ?_
        refine P_iconst (pc' := 43) dX9_takesPart_42 rfl (v := 2) rfl ?_
        refine P_icmp_eq (tgt := 52) (pc' := 46) dX9_takesPart_43 rfl rfl (fun h43 => ?_) (fun h43 => ?_)
        · refine P_aload0 (pc' := 53) dX9_takesPart_52 rfl ?_
          refine P_getr (pc' := 56) dX9_takesPart_53 rfl fl_X9_32 rfl (l_55 hsh) (t_55 hsh) (q_55_15 hsh) ?_
          refine P_aload0 (pc' := 57) dX9_takesPart_56 rfl ?_
          refine P_geti (pc' := 60) dX9_takesPart_57 rfl fl_X9_216 rfl (l_55 hsh) (t_55 hsh) ?_
          refine P_as hC.1 ?_
          refine P_aload0 (pc' := 61) dX9_takesPart_60 rfl ?_
          refine P_geti (pc' := 64) dX9_takesPart_61 rfl fl_X9_192 rfl (l_55 hsh) (t_55 hsh) ?_
          refine P_as e9 ?_
          refine P_iconst (pc' := 65) dX9_takesPart_64 rfl (v := 2) rfl ?_
          refine P_icmp_ne (tgt := 75) (pc' := 68) dX9_takesPart_65 rfl rfl (fun h65 => ?_) (fun h65 => ?_)
          · exact absurd rfl h65
          · refine P_aload0 (pc' := 69) dX9_takesPart_68 rfl ?_
            refine P_geti (pc' := 72) dX9_takesPart_69 rfl fl_X9_198 rfl (l_55 hsh) (t_55 hsh) ?_
            refine P_as (h10n q ql) ?_
            refine P_goto (tgt := 87) dX9_takesPart_72 rfl ?_
            exact k87 _ _ ep (Or.inr q)
        · exact absurd rfl h43
      · exact absurd h5 (by decide)
    · have e9 : I 55 9 = 4 := by rw [h9]; unfold tk; rw [if_pos ⟨q, by omega⟩]; rfl
      have ep : prt key b x = none := by unfold prt; rw [if_pos q, if_neg ql]
      refine P_aload0 (pc' := 1) dX9_takesPart_0 rfl ?_
      refine P_geti (pc' := 4) dX9_takesPart_1 rfl fl_X9_192 rfl (l_55 hsh) (t_55 hsh) ?_
      refine P_as e9 ?_
      refine P_iconst (pc' := 5) dX9_takesPart_4 rfl (v := 1) rfl ?_
      refine P_icmp_ne (tgt := 36) (pc' := 8) dX9_takesPart_5 rfl rfl (fun h5 => ?_) (fun h5 => ?_)
      · refine P_iconst (pc' := 37) dX9_takesPart_36 rfl (v := 0) rfl ?_
        refine P_istore1 (pc' := 38) dX9_takesPart_37 rfl (by decide) rfl ?_
        refine P_aload0 (pc' := 39) dX9_takesPart_38 rfl ?_
        refine P_geti (pc' := 42) dX9_takesPart_39 rfl fl_X9_192 rfl (l_55 hsh) (t_55 hsh) ?_
        refine P_as e9 ?_
        refine P_iconst (pc' := 43) dX9_takesPart_42 rfl (v := 2) rfl ?_
        refine P_icmp_eq (tgt := 52) (pc' := 46) dX9_takesPart_43 rfl rfl (fun h43 => ?_) (fun h43 => ?_)
        · exact absurd h43 (by decide)
        · refine P_iload1 (pc' := 47) dX9_takesPart_46 rfl ?_
          refine P_if_ne (tgt := 52) (pc' := 50) dX9_takesPart_47 rfl rfl (fun h47 => ?_) (fun h47 => ?_)
          · exact absurd rfl h47
          · refine P_iconst (pc' := 51) dX9_takesPart_50 rfl (v := 0) rfl ?_
            refine P_zret dX9_takesPart_51 (by first | exact Or.inl rfl | exact Or.inr rfl) ?_
            exact out ep
      · exact absurd h5 (by decide)
  · have ep : prt key b x = none := by unfold prt; rw [if_neg q.2, if_neg q.1]
    have e9 : I 55 9 = nI x.1 := by rw [h9]; unfold tk; rw [if_neg (by omega)]
    refine P_aload0 (pc' := 1) dX9_takesPart_0 rfl ?_
    refine P_geti (pc' := 4) dX9_takesPart_1 rfl fl_X9_192 rfl (l_55 hsh) (t_55 hsh) ?_
    refine P_as e9 ?_
    refine P_iconst (pc' := 5) dX9_takesPart_4 rfl (v := 1) rfl ?_
    refine P_icmp_ne (tgt := 36) (pc' := 8) dX9_takesPart_5 rfl rfl (fun h5 => ?_) (fun h5 => ?_)
    · refine P_iconst (pc' := 37) dX9_takesPart_36 rfl (v := 0) rfl ?_
      refine P_istore1 (pc' := 38) dX9_takesPart_37 rfl (by decide) rfl ?_
      refine P_aload0 (pc' := 39) dX9_takesPart_38 rfl ?_
      refine P_geti (pc' := 42) dX9_takesPart_39 rfl fl_X9_192 rfl (l_55 hsh) (t_55 hsh) ?_
      refine P_as e9 ?_
      refine P_iconst (pc' := 43) dX9_takesPart_42 rfl (v := 2) rfl ?_
      refine P_icmp_eq (tgt := 52) (pc' := 46) dX9_takesPart_43 rfl rfl (fun h43 => ?_) (fun h43 => ?_)
      · exact absurd ((nI_eq (b := 2) (by omega) (by decide)).mp h43) q.2
      · refine P_iload1 (pc' := 47) dX9_takesPart_46 rfl ?_
        refine P_if_ne (tgt := 52) (pc' := 50) dX9_takesPart_47 rfl rfl (fun h47 => ?_) (fun h47 => ?_)
        · exact absurd rfl h47
        · refine P_iconst (pc' := 51) dX9_takesPart_50 rfl (v := 0) rfl ?_
          refine P_zret dX9_takesPart_51 (by first | exact Or.inl rfl | exact Or.inr rfl) ?_
          exact out ep
    · exact absurd ((nI_eq (b := 1) (by omega) (by decide)).mp h5) q.1

