/-! what waits, and the code, as rows -/
def WS : List Int32 → (Nat → Int32) → Prop
  | [], _ => True
  | z :: Z, f => f Z.length = z ∧ WS Z f
theorem WS.cg : ∀ {Z : List Int32} {f g : Nat → Int32}, WS Z f → (∀ k, k < Z.length → g k = f k) → WS Z g := by
  intro Z
  induction Z with
  | nil => intro f g _ _; trivial
  | cons z Z ih =>
    intro f g h hg
    exact ⟨(hg Z.length (Nat.lt_succ_self _)).trans h.1, ih h.2 (fun k hk => hg k (Nat.lt_succ_of_lt hk))⟩
def CR (C : List Int32) (J : Mem) : Prop := J 55 16 = nI C.length ∧ ∀ k, k < C.length → J 63 k = C.getD k 0
def ZR (Z : List Int32) (J : Mem) : Prop := J 55 19 = nI Z.length ∧ WS Z (J 64)
def FrS (I J : Mem) : Prop := (∀ y, y ≠ 55 → y ≠ 63 → J y = I y) ∧ ∀ k, k ≠ 16 → k ≠ 19 → J 55 k = I 55 k
theorem stl_len (r : Nat) : ∀ (Z C : List Int32), (stl r Z C).2.length + (stl r Z C).1.length = C.length + Z.length := by
  intro Z
  induction Z with
  | nil => intro C; rfl
  | cons z Z ih =>
    intro C
    rw [stl_s]
    split
    · rfl
    · split
      · rw [ih, List.length_append]
        show C.length + 1 + Z.length = C.length + (Z.length + 1)
        omega
      · rfl
theorem rk_6 (z : Int32) : rk z ≤ 6 := by
  unfold rk
  repeat' split
  all_goals omega
theorem getD_app {C : List Int32} {z : Int32} {k : Nat} (hk : k < C.length + 1) : (C ++ [z]).getD k 0 = if k = C.length then z else C.getD k 0 := by
  by_cases q : k = C.length
  · rw [if_pos q, q, List.getD_eq_getElem?_getD, List.getElem?_append_right (Nat.le_refl _), Nat.sub_self]; rfl
  · rw [if_neg q, List.getD_eq_getElem?_getD, List.getD_eq_getElem?_getD, List.getElem?_append_left (by omega)]
/-- one more of the code -/
theorem CR.add {C : List Int32} {I J : Mem} {z : Int32} (h : CR C I) (h16 : J 55 16 = nI (C.length + 1)) (h63 : ∀ k, J 63 k = if k = C.length then z else I 63 k) : CR (C ++ [z]) J := by
  refine ⟨by rw [List.length_append]; exact h16, fun k hk => ?_⟩
  rw [List.length_append] at hk
  have hk : k < C.length + 1 := hk
  rw [h63 k, getD_app hk]
  by_cases q : k = C.length
  · rw [if_pos q, if_pos q]
  · rw [if_neg q, if_neg q, h.2 k (by omega)]
theorem lp_X9_settle {G : GX} {S : Shp} {I0 : Mem} {d r : Nat} (hsh : SHP S) (hr : r ≤ 6) (hd : 1 ≤ d) : ∀ (Z C : List Int32) (I : Mem), CR C I → ZR Z I → C.length + Z.length ≤ 96 → FrS I0 I → PW G RX9 "settle" cX9_settle 2 none d 0 0 (fun o S' J => o = none ∧ S = S' ∧ CR (stl r Z C).2 J ∧ ZR (stl r Z C).1 J ∧ FrS I0 J) 0 [some (.ref 55), some (.int (nI r))] [] S I := by
  intro Z
  induction Z with
  | nil =>
    intro C I hC hZ hl hf
    refine P_aload0 (pc' := 1) dX9_settle_0 rfl ?_
    refine P_geti (pc' := 4) dX9_settle_1 rfl fl_X9_210 rfl (l_55 hsh) (t_55 hsh) ?_
    refine P_as (y := 0) hZ.1 ?_
    refine P_if_le (tgt := 82) (pc' := 7) dX9_settle_4 rfl rfl (fun h4 => ?_) (fun h4 => ?_)
    · refine P_vret dX9_settle_82 ?_
      exact ⟨rfl, rfl, hC, hZ, hf⟩
    · exact absurd (by decide) h4
  | cons z Z ih =>
    intro C I hC hZ hl hf
    obtain ⟨h19, hz, hZ2⟩ := id hZ
    have hl : C.length + (Z.length + 1) ≤ 96 := hl
    have h19 : I 55 19 = nI (Z.length + 1) := h19
    have e1 : nI (Z.length + 1) - 1 = nI Z.length := by rw [show (1 : Int32) = nI 1 from rfl, pk_sub (by omega)]; rfl
    have r6 := rk_6 z
    rw [stl_s]
    refine P_aload0 (pc' := 1) dX9_settle_0 rfl ?_
    refine P_geti (pc' := 4) dX9_settle_1 rfl fl_X9_210 rfl (l_55 hsh) (t_55 hsh) ?_
    refine P_as h19 ?_
    refine P_if_le (tgt := 82) (pc' := 7) dX9_settle_4 rfl rfl (fun h4 => ?_) (fun h4 => ?_)
    · exact absurd h4 (nI_ge (b := Z.length + 1) (a := 0) (by omega) (by omega))
    · refine P_aload0 (pc' := 8) dX9_settle_7 rfl ?_
      refine P_getr (pc' := 11) dX9_settle_8 rfl fl_X9_35 rfl (l_55 hsh) (t_55 hsh) (q_55_18 hsh) ?_
      refine P_aload0 (pc' := 12) dX9_settle_11 rfl ?_
      refine P_geti (pc' := 15) dX9_settle_12 rfl fl_X9_210 rfl (l_55 hsh) (t_55 hsh) ?_
      refine P_as h19 ?_
      refine P_iconst (pc' := 16) dX9_settle_15 rfl (v := 1) rfl ?_
      refine P_isub (pc' := 17) dX9_settle_16 rfl ?_
      refine P_as e1 ?_
      refine P_iald (pc' := 18) dX9_settle_17 rfl (l_64 hsh) (t_64 hsh) (j := Z.length) rfl (by omega) (by decide) ?_
      refine P_as hz ?_
      refine P_bipush (pc' := 20) dX9_settle_18 rfl (v := (-11)) rfl ?_
      refine P_icmp_eq (tgt := 82) (pc' := 23) dX9_settle_20 rfl rfl (fun h20 => ?_) (fun h20 => ?_)
      · refine P_vret dX9_settle_82 ?_
        first
          | (rw [if_pos h20]; exact ⟨rfl, rfl, hC, hZ, hf⟩)
          | (rw [if_neg h20, if_neg (fun w => nI_nlt w (by omega) h38)]; exact ⟨rfl, rfl, hC, hZ, hf⟩)
      · refine P_aload0 (pc' := 24) dX9_settle_23 rfl ?_
        refine P_getr (pc' := 27) dX9_settle_24 rfl fl_X9_35 rfl (l_55 hsh) (t_55 hsh) (q_55_18 hsh) ?_
        refine P_aload0 (pc' := 28) dX9_settle_27 rfl ?_
        refine P_geti (pc' := 31) dX9_settle_28 rfl fl_X9_210 rfl (l_55 hsh) (t_55 hsh) ?_
        refine P_as h19 ?_
        refine P_iconst (pc' := 32) dX9_settle_31 rfl (v := 1) rfl ?_
        refine P_isub (pc' := 33) dX9_settle_32 rfl ?_
        refine P_as e1 ?_
        refine P_iald (pc' := 34) dX9_settle_33 rfl (l_64 hsh) (t_64 hsh) (j := Z.length) rfl (by omega) (by decide) ?_
        refine P_as hz ?_
        refine P_callS1 (pc' := 37) dX9_settle_34 rfl lk_X9_213 (c_X9_rank (d := 0) z) (by omega) (Nat.le_of_ble_eq_true rfl) (fun r S' I' hq => ?_)
        obtain ⟨rfl, rfl, rfl⟩ := hq
        refine P_iload1 (pc' := 38) dX9_settle_37 rfl ?_
        refine P_icmp_lt (tgt := 82) (pc' := 41) dX9_settle_38 rfl rfl (fun h38 => ?_) (fun h38 => ?_)
        · refine P_vret dX9_settle_82 ?_
          first
            | (rw [if_pos h20]; exact ⟨rfl, rfl, hC, hZ, hf⟩)
            | (rw [if_neg h20, if_neg (fun w => nI_nlt w (by omega) h38)]; exact ⟨rfl, rfl, hC, hZ, hf⟩)
        · refine P_aload0 (pc' := 42) dX9_settle_41 rfl ?_
          refine P_dup (pc' := 43) dX9_settle_42 rfl rfl ?_
          refine P_geti (pc' := 46) dX9_settle_43 rfl fl_X9_210 rfl (l_55 hsh) (t_55 hsh) ?_
          refine P_as h19 ?_
          refine P_iconst (pc' := 47) dX9_settle_46 rfl (v := 1) rfl ?_
          refine P_isub (pc' := 48) dX9_settle_47 rfl ?_
          refine P_as e1 ?_
          refine P_puti (pc' := 51) dX9_settle_48 rfl fl_X9_210 rfl (l_55 hsh) (t_55 hsh) ?_
          refine P_aload0 (pc' := 52) dX9_settle_51 rfl ?_
          refine P_getr (pc' := 55) dX9_settle_52 rfl fl_X9_32 rfl (l_55 hsh) (t_55 hsh) (q_55_15 hsh) ?_
          refine P_aload0 (pc' := 56) dX9_settle_55 rfl ?_
          refine P_geti (pc' := 59) dX9_settle_56 rfl fl_X9_216 rfl (l_55 hsh) (t_55 hsh) ?_
          refine P_as (y := nI C.length) (by rw [u2_k (by decide)]; exact hC.1) ?_
          refine P_aload0 (pc' := 60) dX9_settle_59 rfl ?_
          refine P_getr (pc' := 63) dX9_settle_60 rfl fl_X9_35 rfl (l_55 hsh) (t_55 hsh) (q_55_18 hsh) ?_
          refine P_aload0 (pc' := 64) dX9_settle_63 rfl ?_
          refine P_geti (pc' := 67) dX9_settle_64 rfl fl_X9_210 rfl (l_55 hsh) (t_55 hsh) ?_
          refine P_as (u2_s _ _ _ _) ?_
          refine P_iald (pc' := 68) dX9_settle_67 rfl (l_64 hsh) (t_64 hsh) (j := Z.length) rfl (by omega) (by decide) ?_
          refine P_as (y := z) (by rw [u2_a (by decide)]; exact hz) ?_
          refine P_iast (pc' := 69) dX9_settle_68 rfl (l_63 hsh) (t_63 hsh) (j := C.length) rfl (by omega) (by decide) ?_
          refine P_aload0 (pc' := 70) dX9_settle_69 rfl ?_
          refine P_dup (pc' := 71) dX9_settle_70 rfl rfl ?_
          refine P_geti (pc' := 74) dX9_settle_71 rfl fl_X9_216 rfl (l_55 hsh) (t_55 hsh) ?_
          refine P_as (y := nI C.length) (by rw [u2_a (by decide), u2_k (by decide)]; exact hC.1) ?_
          refine P_iconst (pc' := 75) dX9_settle_74 rfl (v := 1) rfl ?_
          refine P_iadd (pc' := 76) dX9_settle_75 rfl ?_
          refine P_as (nI_1 _) ?_
          refine P_puti (pc' := 79) dX9_settle_76 rfl fl_X9_216 rfl (l_55 hsh) (t_55 hsh) ?_
          refine P_goto (tgt := 0) dX9_settle_79 rfl ?_
          rw [if_neg h20, if_pos (Classical.byContradiction (fun w => h38 (nI_lt (by omega) (by omega))))]
          refine ih (C ++ [z]) _ (hC.add (u2_s _ _ _ _) (fun k => ?_)) ⟨?_, hZ2.cg (fun k hk => ?_)⟩ (by rw [List.length_append]; show C.length + 1 + Z.length ≤ 96; omega) ⟨fun y h1 h2 => ?_, fun k h1 h2 => ?_⟩
          · rw [u2_a (by decide)]
            by_cases q : k = C.length
            · rw [if_pos q, q, u2_s]
            · rw [if_neg q, u2_k q, u2_a (by decide)]
          · rw [u2_k (by decide), u2_a (by decide), u2_s]
          · rw [u2_a (by decide), u2_a (by decide), u2_a (by decide)]
          · rw [u2_row h1, u2_row h2, u2_row h1]; exact hf.1 y h1 h2
          · rw [u2_k h1, u2_a (by decide), u2_k h2]; exact hf.2 k h1 h2
theorem c_X9_settle {G : GX} {S : Shp} {I : Mem} {d r : Nat} {Z C : List Int32} (hsh : SHP S) (hC : CR C I) (hZ : ZR Z I) (hl : C.length + Z.length ≤ 96) (hr : r ≤ 6) (hd : 1 ≤ d) : PM G yX9_settle cX9_settle 2 none d 0 0 [.ref 55, .int (nI r)] S I (fun o S' J => o = none ∧ S = S' ∧ CR (stl r Z C).2 J ∧ ZR (stl r Z C).1 J ∧ FrS I J) := by
  refine PM.of (ls := [some (.ref 55), some (.int (nI r))]) (by decide) rfl (Nat.le_of_ble_eq_true rfl) rfl ?_
  show PW G RX9 "settle" _ _ _ _ _ _ _ _ _ _ _ _
  exact lp_X9_settle hsh hr hd Z C I hC hZ hl ⟨fun _ _ _ => rfl, fun _ _ _ => rfl⟩
def cN (f : Nat → Int32) : Nat → Nat
  | 0 => 0
  | m + 1 => cN f m + (if f m = -10 then 1 else 0)
theorem cN_s (f : Nat → Int32) (m : Nat) : cN f (m + 1) = cN f m + (if f m = -10 then 1 else 0) := rfl
theorem cN_cnt {f : Nat → Int32} : ∀ {Z : List Int32}, WS Z f → cN f Z.length = cnt (-10) Z := by
  intro Z
  induction Z with
  | nil => intro _; rfl
  | cons z Z ih =>
    intro h
    show cN f (Z.length + 1) = _
    rw [cN_s, cnt_s, ih h.2, h.1, Nat.add_comm]
theorem cN_le (f : Nat → Int32) : ∀ m, cN f m ≤ m := by
  intro m
  induction m with
  | zero => exact Nat.le_refl _
  | succ m ih => rw [cN_s]; split <;> omega
theorem lp_X9_notsOpen {G : GX} {S : Shp} {I : Mem} {d L : Nat} (hsh : SHP S) (h19 : I 55 19 = nI L) (hL : L ≤ 96) : ∀ (m i : Nat), i + m = L → PW G RX9 "notsOpen" cX9_notsOpen 3 (some .int) d 0 0 (Rm S I (nI (cN (I 64) L))) 4 [some (.ref 55), some (.int (nI (cN (I 64) i))), some (.int (nI i))] [] S I := by
  intro m
  induction m with
  | zero =>
    intro i hi
    have hi : i = L := by omega
    subst hi
    refine P_iload2 (pc' := 5) dX9_notsOpen_4 rfl ?_
    refine P_aload0 (pc' := 6) dX9_notsOpen_5 rfl ?_
    refine P_geti (pc' := 9) dX9_notsOpen_6 rfl fl_X9_210 rfl (l_55 hsh) (t_55 hsh) ?_
    refine P_as h19 ?_
    refine P_icmp_ge (tgt := 37) (pc' := 12) dX9_notsOpen_9 rfl rfl (fun h9 => ?_) (fun h9 => ?_)
    · refine P_iload1 (pc' := 38) dX9_notsOpen_37 rfl ?_
      refine P_iret dX9_notsOpen_38 ?_
      exact ⟨rfl, rfl, rfl⟩
    · exact absurd (nI_le (Nat.le_refl _) (by omega)) h9
  | succ m ih =>
    intro i hi
    have hc := cN_le (I 64) i
    have ih := ih (i + 1) (by omega)
    rw [cN_s] at ih
    have k30 : ∀ v : Int32, PW G RX9 "notsOpen" cX9_notsOpen 3 (some .int) d 0 0 (Rm S I (nI (cN (I 64) L))) 4 [some (.ref 55), some (.int v), some (.int (nI (i + 1)))] [] S I → PW G RX9 "notsOpen" cX9_notsOpen 3 (some .int) d 0 0 (Rm S I (nI (cN (I 64) L))) 30 [some (.ref 55), some (.int (nI (cN (I 64) i))), some (.int (nI i))] [.int v] S I := by
      intro v hv
      refine P_istore1 (pc' := 31) dX9_notsOpen_30 rfl (by decide) rfl ?_
      refine P_iinc2 (pc' := 34) dX9_notsOpen_31 rfl (nI_1 i) (by decide) rfl ?_
      refine P_goto (tgt := 4) dX9_notsOpen_34 rfl ?_
      exact hv
    refine P_iload2 (pc' := 5) dX9_notsOpen_4 rfl ?_
    refine P_aload0 (pc' := 6) dX9_notsOpen_5 rfl ?_
    refine P_geti (pc' := 9) dX9_notsOpen_6 rfl fl_X9_210 rfl (l_55 hsh) (t_55 hsh) ?_
    refine P_as h19 ?_
    refine P_icmp_ge (tgt := 37) (pc' := 12) dX9_notsOpen_9 rfl rfl (fun h9 => ?_) (fun h9 => ?_)
    · exact absurd h9 (nI_ge (by omega) (by omega))
    · refine P_iload1 (pc' := 13) dX9_notsOpen_12 rfl ?_
      refine P_aload0 (pc' := 14) dX9_notsOpen_13 rfl ?_
      refine P_getr (pc' := 17) dX9_notsOpen_14 rfl fl_X9_35 rfl (l_55 hsh) (t_55 hsh) (q_55_18 hsh) ?_
      refine P_iload2 (pc' := 18) dX9_notsOpen_17 rfl ?_
      refine P_iald (pc' := 19) dX9_notsOpen_18 rfl (l_64 hsh) (t_64 hsh) (j := i) rfl (by omega) (by decide) ?_
      refine P_bipush (pc' := 21) dX9_notsOpen_19 rfl (v := (-10)) rfl ?_
      refine P_icmp_ne (tgt := 28) (pc' := 24) dX9_notsOpen_21 rfl rfl (fun h21 => ?_) (fun h21 => ?_)
      · refine P_iconst (pc' := 29) dX9_notsOpen_28 rfl (v := 0) rfl ?_
        refine P_iadd (pc' := 30) dX9_notsOpen_29 rfl ?_
        first
          | (rw [if_pos h21, ← nI_1] at ih; exact k30 _ ih)
          | (rw [if_neg h21] at ih; exact k30 _ (by rw [Int32.add_zero]; exact ih))
      · refine P_iconst (pc' := 25) dX9_notsOpen_24 rfl (v := 1) rfl ?_
        refine P_goto (tgt := 29) dX9_notsOpen_25 rfl ?_
        refine P_iadd (pc' := 30) dX9_notsOpen_29 rfl ?_
        first
          | (rw [if_pos h21, ← nI_1] at ih; exact k30 _ ih)
          | (rw [if_neg h21] at ih; exact k30 _ (by rw [Int32.add_zero]; exact ih))
theorem c_X9_notsOpen {G : GX} {S : Shp} {I : Mem} {d : Nat} {Z : List Int32} (hsh : SHP S) (hZ : ZR Z I) (hl : Z.length ≤ 96) : PM G yX9_notsOpen cX9_notsOpen 3 (some .int) d 0 0 [.ref 55] S I (Rm S I (nI (cnt (-10) Z))) := by
  rw [← cN_cnt hZ.2]
  refine PM.of (ls := [some (.ref 55), none, none]) (by decide) rfl (Nat.le_of_ble_eq_true rfl) rfl ?_
  show PW G RX9 "notsOpen" _ _ _ _ _ _ _ _ _ _ _ _
  refine P_iconst (pc' := 1) dX9_notsOpen_0 rfl (v := 0) rfl ?_
  refine P_istore1 (pc' := 2) dX9_notsOpen_1 rfl (by decide) rfl ?_
  refine P_iconst (pc' := 3) dX9_notsOpen_2 rfl (v := 0) rfl ?_
  refine P_istore2 (pc' := 4) dX9_notsOpen_3 rfl (by decide) rfl ?_
  exact lp_X9_notsOpen hsh hZ.1 hl Z.length 0 (by omega)

