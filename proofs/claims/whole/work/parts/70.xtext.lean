def uTx (T : Mem) (tn : Nat) : TOut → Mem
  | .inl _ => u2 T 55 6 0
  | .inr (key, C) => if tn = 14 then u2 T 55 6 0 else sR (u2 T 55 6 0) 56 (rowT (T 56) tn key C)
def vTx (tn : Nat) : TOut → Int32
  | .inl p => -100 - nI p
  | .inr _ => if tn = 14 then -1000000003 else nI tn
def nTx (tn : Nat) : TOut → Nat
  | .inl _ => tn
  | .inr _ => if tn = 14 then tn else tn + 1
def xTx (tx : Nat → Tx) (tn : Nat) : TOut → Nat → Tx
  | .inl _ => tx
  | .inr (key, C) => if tn = 14 then tx else fun t => if t = tn then mkTx key C else tx t
theorem CP.e {I J T : Mem} (h : CP I T) (hJ : J 24 = I 24) : CP (u2 J 23 1 0) (u2 T 55 6 0) := by
  refine ⟨by rw [u2_s, u2_s], fun k hk => ?_⟩
  rw [u2_a (by decide), u2_a (by decide), hJ]
  exact h.2 k hk
theorem K.e {S : Shp} {I J T : Mem} {tn bn : Nat} {tx : Nat → Tx} (h : K S I T tn bn tx) (hf : FrT I J) : K S (u2 J 23 1 0) (u2 T 55 6 0) tn bn tx :=
  h.tape (fun x h1 h2 h3 h4 => by rw [u2_row h1]; exact hf x h3 h4) (fun x h1 _ => u2_row h1) (fun k hk => u2_k hk) ⟨0, by decide, u2_s _ _ _ _⟩ (CP.e h.2.2.2.2.2.2.2.2.2 (hf 24 (by decide) (by decide)))
theorem MkQ.shp {S S' : Shp} {I J : Mem} {len p key : Nat} {r : Option Value} (h : MkQ S I len p key r S' J) (hsh : SHP S) (cap : S.1 + 3 ≤ 3000) : SHP S' := by
  obtain ⟨-, m1, m2, -⟩ := h
  have := hsh.1
  exact ⟨by omega, by omega, fun i hi => ((m2 i (by omega)).1).trans (hsh.2.2.1 i hi), fun i j h1 h2 h3 => by rw [(m2 i (by omega)).2.1]; exact hsh.2.2.2 i j h1 h2 h3⟩
theorem SHP.p26 {S : Shp} (h : SHP S) (k : Nat) (v : Option Nat) : SHP (S.1, S.2.1, p2 S.2.2 26 k v) := ⟨h.1, h.2.1, h.2.2.1, fun i j h1 h2 h3 => by
  show p2 S.2.2 26 k v i j = _
  rw [p2_row h2]; exact h.2.2.2 i j h1 h2 h3⟩
theorem x_text {G : GX} {S : Shp} {I T : Mem} {d tn bn n : Nat} {tx : Nat → Tx} {o : TOut} (hG : (gFm G).category = 1) (hK : K S I T tn bn tx) (hn : n ≤ 96) (h6 : T 55 6 = nI n) (hX : XO (I 24) n o) (cap : S.1 + 3 ≤ 3000) (h3 : S.1 % 3 = 2) (hd : 90 ≤ d) : PM G yX8_text cX8_text 3 (some .int) d 3 196 [.ref 0] S I (fun r S' I' => CO I (uTx T tn o) (nTx tn o) bn (xTx tx tn o) (vTx tn o) r S' I' ∧ (S'.1 = S.1 ∨ S'.1 = S.1 + 3)) := by
  have hsh : SHP S := hK.2.1
  have h22 : I 23 1 = nI n := by rw [← h6]; exact hK.2.2.2.2.2.2.2.2.2.1
  obtain ⟨-, -, -, -, -, e13⟩ := hK.n
  have t14 : tn ≤ 14 := hK.1.2.1.1.1
  have out : ∀ {J : Mem}, FrT I J → ∀ x, 55 ≤ x → x < 77 → u2 J 23 1 0 x = I x := fun hf x h1 h2 => by rw [u2_row (by omega)]; exact hf x (by omega) (by omega)
  refine PM.of (ls := [some (.ref 0), none, none]) (by decide) rfl (Nat.le_of_ble_eq_true rfl) rfl ?_
  show PW G RX8 "text" _ _ _ _ _ _ _ _ _ _ _ _
  cases o with
  | inl p =>
    have k17 : ∀ {J : Mem}, FrT I J → p ≤ 96 → PW G RX8 "text" cX8_text 3 (some .int) d 3 196 (fun r S' I' => CO I (uTx T tn (.inl p)) (nTx tn (.inl p)) bn (xTx tx tn (.inl p)) (vTx tn (.inl p)) r S' I' ∧ (S'.1 = S.1 ∨ S'.1 = S.1 + 3)) 7 [some (.ref 0), none, none] [.int (nI p)] S J := by
      intro J f2 hp
      have k2 := hK.e f2
      refine P_istore1 (pc' := 8) dX8_text_7 rfl (by decide) rfl ?_
      refine P_aload0 (pc' := 9) dX8_text_8 rfl ?_
      refine P_getr (pc' := 12) dX8_text_9 rfl fl_X8_37 rfl (l_0 hsh) (t_0 hsh) (q_0_5 hsh) ?_
      refine P_iconst (pc' := 13) dX8_text_12 rfl (v := 0) rfl ?_
      refine P_puti (pc' := 16) dX8_text_13 rfl fl_X8_217 rfl (l_23 hsh) (t_23 hsh) ?_
      refine P_iload1 (pc' := 17) dX8_text_16 rfl ?_
      refine P_if_lt (tgt := 25) (pc' := 20) dX8_text_17 rfl rfl (fun h17 => ?_) (fun h17 => ?_)
      · exact absurd h17 (nI_pos (by omega))
      · refine P_bipush (pc' := 22) dX8_text_20 rfl (v := (-100)) rfl ?_
        refine P_iload1 (pc' := 23) dX8_text_22 rfl ?_
        refine P_isub (pc' := 24) dX8_text_23 rfl ?_
        refine P_iret dX8_text_24 ?_
        exact ⟨⟨rfl, k2, out f2⟩, Or.inl rfl⟩
    cases hk : kyO (I 24) (advL (I 24) n (3, 0, 0)) with
    | none =>
      have hX : (match kyO (I 24) (advL (I 24) n (3, 0, 0)) with | none => p = (advL (I 24) n (3, 0, 0)).2.1 | some key => (if (ffS (I 24) n key).1.1 = 0 then ffS (I 24) n key else fl (ffS (I 24) n key)).2.1 = some p) := hX
      rw [hk] at hX
      have hp : p ≤ 96 := by
        have := (advL_ok (b := I 24) (n := n) (x := (3, 0, 0)) (Nat.zero_le n)).1.2.2.1
        omega
      refine P_aload0 (pc' := 1) dX8_text_0 rfl ?_
      refine P_getr (pc' := 4) dX8_text_1 rfl fl_X8_29 rfl (l_0 hsh) (t_0 hsh) (q_0_4 hsh) ?_
      refine P_callV0 (pc' := 7) dX8_text_4 rfl lk_X8_223 (l_22 hsh) (t_22 hsh) (c_X2_findFault (d := 80) (b := I 24) hsh hG hn h22 rfl (by omega)) (by omega) (Nat.le_of_ble_eq_true rfl) (fun r S2 I2 hq => ?_)
      obtain ⟨rfl, f2, hq⟩ := hq
      rw [hk] at hq
      have hq : r = some (.int (nI (advL (I 24) n (3, 0, 0)).2.1)) := hq
      rw [← hX] at hq
      subst hq
      exact k17 f2 hp
    | some key =>
      have hX : (match kyO (I 24) (advL (I 24) n (3, 0, 0)) with | none => p = (advL (I 24) n (3, 0, 0)).2.1 | some key => (if (ffS (I 24) n key).1.1 = 0 then ffS (I 24) n key else fl (ffS (I 24) n key)).2.1 = some p) := hX
      rw [hk] at hX
      have hX : (if (ffS (I 24) n key).1.1 = 0 then ffS (I 24) n key else fl (ffS (I 24) n key)).2.1 = some p := hX
      refine P_aload0 (pc' := 1) dX8_text_0 rfl ?_
      refine P_getr (pc' := 4) dX8_text_1 rfl fl_X8_29 rfl (l_0 hsh) (t_0 hsh) (q_0_4 hsh) ?_
      refine P_callV0 (pc' := 7) dX8_text_4 rfl lk_X8_223 (l_22 hsh) (t_22 hsh) (c_X2_findFault (d := 80) (b := I 24) hsh hG hn h22 rfl (by omega)) (by omega) (Nat.le_of_ble_eq_true rfl) (fun r S2 I2 hq => ?_)
      obtain ⟨rfl, f2, hq⟩ := hq
      rw [hk] at hq
      obtain ⟨hq, hR⟩ := hq
      have hp : p ≤ 96 := hR.1.2.2.2.2.2.2 p hX
      rw [hX] at hq
      have hq : r = some (.int (nI p)) := hq
      subst hq
      exact k17 f2 hp
  | inr z =>
    obtain ⟨key, C⟩ := z
    obtain ⟨hk, y1, y2, y3, y4, y5⟩ := hX
    have hpu := puL_le C
    by_cases q14 : tn = 14
    · skip
      refine P_aload0 (pc' := 1) dX8_text_0 rfl ?_
      refine P_getr (pc' := 4) dX8_text_1 rfl fl_X8_29 rfl (l_0 hsh) (t_0 hsh) (q_0_4 hsh) ?_
      refine P_callV0 (pc' := 7) dX8_text_4 rfl lk_X8_223 (l_22 hsh) (t_22 hsh) (c_X2_findFault (d := 80) (b := I 24) hsh hG hn h22 rfl (by omega)) (by omega) (Nat.le_of_ble_eq_true rfl) (fun r S2 I2 hq => ?_)
      obtain ⟨rfl, f2, hq⟩ := hq
      rw [hk] at hq
      obtain ⟨hq, hR⟩ := hq
      rw [y1, y2] at hq
      have hq : r = some (.int (-1)) := hq
      subst hq
      refine P_istore1 (pc' := 8) dX8_text_7 rfl (by decide) rfl ?_
      refine P_aload0 (pc' := 9) dX8_text_8 rfl ?_
      refine P_getr (pc' := 12) dX8_text_9 rfl fl_X8_37 rfl (l_0 hsh) (t_0 hsh) (q_0_5 hsh) ?_
      refine P_iconst (pc' := 13) dX8_text_12 rfl (v := 0) rfl ?_
      refine P_puti (pc' := 16) dX8_text_13 rfl fl_X8_217 rfl (l_23 hsh) (t_23 hsh) ?_
      refine P_iload1 (pc' := 17) dX8_text_16 rfl ?_
      refine P_if_lt (tgt := 25) (pc' := 20) dX8_text_17 rfl rfl (fun h17 => ?_) (fun h17 => ?_)
      · refine P_aload0 (pc' := 26) dX8_text_25 rfl ?_
        refine P_getr (pc' := 29) dX8_text_26 rfl fl_X8_10 rfl (l_0 hsh) (t_0 hsh) (q_0_0 hsh) ?_
        refine P_geti (pc' := 32) dX8_text_29 rfl fl_X8_117 rfl (l_1 hsh) (t_1 hsh) ?_
        refine P_as (y := nI tn) (by rw [u2_a (by decide), f2 1 (by decide) (by decide)]; exact e13) ?_
        refine P_bipush (pc' := 34) dX8_text_32 rfl (v := 14) rfl ?_
        refine P_icmp_lt (tgt := 40) (pc' := 37) dX8_text_34 rfl rfl (fun h34 => ?_) (fun h34 => ?_)
        · exact absurd h34 (nI_nlt (b := 14) (by omega) (by omega))
        · refine P_ldc (pc' := 39) dX8_text_37 rfl co_X8_85 ?_
          refine P_iret dX8_text_39 ?_
          refine ⟨?_, Or.inl rfl⟩
          have k2 := hK.e f2
          unfold uTx nTx xTx vTx
          dsimp only
          rw [if_pos q14, if_pos q14, if_pos q14, if_pos q14]
          exact ⟨rfl, k2, out f2⟩
      · exact absurd (by decide) h17
    · skip
      refine P_aload0 (pc' := 1) dX8_text_0 rfl ?_
      refine P_getr (pc' := 4) dX8_text_1 rfl fl_X8_29 rfl (l_0 hsh) (t_0 hsh) (q_0_4 hsh) ?_
      refine P_callV0 (pc' := 7) dX8_text_4 rfl lk_X8_223 (l_22 hsh) (t_22 hsh) (c_X2_findFault (d := 80) (b := I 24) hsh hG hn h22 rfl (by omega)) (by omega) (Nat.le_of_ble_eq_true rfl) (fun r S2 I2 hq => ?_)
      obtain ⟨rfl, f2, hq⟩ := hq
      rw [hk] at hq
      obtain ⟨hq, hR⟩ := hq
      rw [y1, y2] at hq
      have hq : r = some (.int (-1)) := hq
      subst hq
      rw [y1] at hR
      refine P_istore1 (pc' := 8) dX8_text_7 rfl (by decide) rfl ?_
      refine P_aload0 (pc' := 9) dX8_text_8 rfl ?_
      refine P_getr (pc' := 12) dX8_text_9 rfl fl_X8_37 rfl (l_0 hsh) (t_0 hsh) (q_0_5 hsh) ?_
      refine P_iconst (pc' := 13) dX8_text_12 rfl (v := 0) rfl ?_
      refine P_puti (pc' := 16) dX8_text_13 rfl fl_X8_217 rfl (l_23 hsh) (t_23 hsh) ?_
      refine P_iload1 (pc' := 17) dX8_text_16 rfl ?_
      refine P_if_lt (tgt := 25) (pc' := 20) dX8_text_17 rfl rfl (fun h17 => ?_) (fun h17 => ?_)
      · refine P_aload0 (pc' := 26) dX8_text_25 rfl ?_
        refine P_getr (pc' := 29) dX8_text_26 rfl fl_X8_10 rfl (l_0 hsh) (t_0 hsh) (q_0_0 hsh) ?_
        refine P_geti (pc' := 32) dX8_text_29 rfl fl_X8_117 rfl (l_1 hsh) (t_1 hsh) ?_
        refine P_as (y := nI tn) (by rw [u2_a (by decide), f2 1 (by decide) (by decide)]; exact e13) ?_
        refine P_bipush (pc' := 34) dX8_text_32 rfl (v := 14) rfl ?_
        refine P_icmp_lt (tgt := 40) (pc' := 37) dX8_text_34 rfl rfl (fun h34 => ?_) (fun h34 => ?_)
        · refine P_aload0 (pc' := 41) dX8_text_40 rfl ?_
          refine P_getr (pc' := 44) dX8_text_41 rfl fl_X8_10 rfl (l_0 hsh) (t_0 hsh) (q_0_0 hsh) ?_
          refine P_geti (pc' := 47) dX8_text_44 rfl fl_X8_117 rfl (l_1 hsh) (t_1 hsh) ?_
          refine P_as (y := nI tn) (by rw [u2_a (by decide), f2 1 (by decide) (by decide)]; exact e13) ?_
          refine P_istore2 (pc' := 48) dX8_text_47 rfl (by decide) rfl ?_
          refine P_aload0 (pc' := 49) dX8_text_48 rfl ?_
          refine P_getr (pc' := 52) dX8_text_49 rfl fl_X8_40 rfl (l_0 hsh) (t_0 hsh) (q_0_6 hsh) ?_
          refine P_iload2 (pc' := 53) dX8_text_52 rfl ?_
          refine P_aload0 (pc' := 54) dX8_text_53 rfl ?_
          refine P_getr (pc' := 57) dX8_text_54 rfl fl_X8_29 rfl (l_0 hsh) (t_0 hsh) (q_0_4 hsh) ?_
          refine P_callV0 (pc' := 60) dX8_text_57 rfl lk_X8_226 (l_22 hsh) (t_22 hsh) (c_X2_makeText (d := 4) (len := C.length) (p := puL C) (key := key) hsh (by rw [u2_a (by decide)]; exact hR.1.2.2.1) (by rw [u2_a (by decide)]; have z := hR.1.2.2.2.2.1; rw [y2] at z; exact z) (by rw [u2_a (by decide)]; have z := hR.1.2.2.2.1.1; rw [y2] at z; rw [z, List.length_map]) y4 (by omega) cap h3 (by omega)) (by omega) (Nat.le_of_ble_eq_true rfl) (fun r S3 I3 hq => ?_)
          have hM := hq
          obtain ⟨rfl, -⟩ := hq
          have sh3 := hM.shp hsh cap
          have sh4 := sh3.p26 tn (some S.1)
          refine P_aast15 (pc' := 61) (j := tn) dX8_text_60 rfl (l_26 sh3) (t_26 sh3) rfl (by omega) (by decide) (by have := hM.2.1; omega) hM.2.2.2.1.2.2.2.1 ?_
          refine P_aload0 (pc' := 62) dX8_text_61 rfl ?_
          refine P_getr (pc' := 65) dX8_text_62 rfl fl_X8_10 rfl (l_0 sh4) (t_0 sh4) (q_0_0 sh4) ?_
          refine P_iload2 (pc' := 66) dX8_text_65 rfl ?_
          refine P_iconst (pc' := 67) dX8_text_66 rfl (v := 1) rfl ?_
          refine P_iadd (pc' := 68) dX8_text_67 rfl ?_
          refine P_as (nI_1 tn) ?_
          refine P_puti (pc' := 71) dX8_text_68 rfl fl_X8_117 rfl (l_1 sh4) (t_1 sh4) ?_
          refine P_iload2 (pc' := 72) dX8_text_71 rfl ?_
          refine P_iret dX8_text_72 ?_
          refine ⟨?_, Or.inr hM.2.1⟩
          have k2 := hK.e f2
          have hs : ∀ k, k < C.length → u2 I2 23 1 0 25 k = enS (C.getD k 0) := fun k hk' => by
            rw [u2_a (by decide)]
            have z := hR.1.2.2.2.1.2 k
            rw [y2] at z
            rw [z (by rw [List.length_map]; exact hk'), List.getD_eq_getElem?_getD, List.getD_eq_getElem?_getD, List.getElem?_map, List.getElem?_eq_getElem hk']
            rfl
          have k3 := k2.tx (by omega) y3 y5 y4 hM hs cap
          rw [u2_row (by decide)] at k3
          unfold uTx nTx xTx vTx
          dsimp only
          rw [if_neg q14, if_neg q14, if_neg q14, if_neg q14]
          exact ⟨rfl, k3, fun x h1 h2 => by rw [u2_row (by omega), (hM.2.2.1 x (by have := hK.2.1.1; omega)).2.2]; exact out f2 x h1 h2⟩
        · exact absurd (nI_lt (b := 14) (by omega) (by decide)) h34
      · exact absurd (by decide) h17

