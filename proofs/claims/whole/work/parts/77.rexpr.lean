def TS : List Bool → (Nat → Int32) → Prop
  | [], _ => True
  | t :: L, f => f L.length = (if t = true then 1 else 0) ∧ TS L f
theorem TS.cg : ∀ {L : List Bool} {f g : Nat → Int32}, TS L f → (∀ k, k < L.length → g k = f k) → TS L g := by
  intro L
  induction L with
  | nil => intro f g _ _; trivial
  | cons t L ih =>
    intro f g h hg
    exact ⟨(hg L.length (Nat.lt_succ_self _)).trans h.1, ih h.2 (fun k hk => hg k (Nat.lt_succ_of_lt hk))⟩
def FrE (I J : Mem) : Prop := (∀ y, y ≠ 55 → y ≠ 63 → y ≠ 64 → y ≠ 65 → J y = I y) ∧ ∀ k, (k < 7 ∨ (11 < k ∧ k ≠ 16 ∧ k ≠ 17 ∧ k ≠ 19)) → J 55 k = I 55 k
/-- the reference's memory, when its reading stands at m -/
def MR (key : Nat) (b : Nat → Int32) (n : Nat) (m : MS) (I : Mem) : Prop := GoR b n m.1 I ∧ WOk b n m.1 ∧ I 55 12 = nI key ∧ CR m.2.1 I ∧ ZR m.2.2.1 I ∧ (TS m.2.2.2.2.1 (I 65) ∧ m.2.2.2.2.1.length = cnt (-11) m.2.2.1 + 1) ∧ I 55 17 = nI m.2.2.2.2.2 ∧ m.2.1.length + m.2.2.1.length ≤ m.1.2.1 ∧ cnt (-11) m.2.2.1 ≤ 8 ∧ wfZ m.2.2.1 ∧ (m.2.2.2.1 = false → nNot m.2.2.1)
def TEQ (S : Shp) (I : Mem) (r : Option (List Int32 × Nat)) (p : Nat) : Option Value → Shp → Mem → Prop := fun o S' J => S = S' ∧ J 55 8 = nI p ∧ FrE I J ∧ match r with
  | none => o = some (.int 0)
  | some (C, a) => o = some (.int 1) ∧ CR C J ∧ J 55 17 = nI a
def lsE (m : MS) (x4 : Option Value) : List (Option Value) := [some (.ref 55), some (.int (nI (cnt (-11) m.2.2.1))), some (.int (nI (cnt (-10) m.2.2.1))), some (.int (if m.2.2.2.1 = true then 1 else 0)), x4]
theorem tk_3 {x : Lx} : tk x = 3 ↔ x.1 = 3 := by
  unfold tk
  split
  · rename_i z; exact ⟨fun q => absurd q (by decide), fun q => by omega⟩
  · exact Iff.rfl
theorem tk_0 {x : Lx} : tk x = 0 ↔ x.1 = 0 := by
  unfold tk
  split
  · rename_i z; exact ⟨fun q => absurd q (by decide), fun q => by omega⟩
  · exact Iff.rfl
/-- behind a sign that opens: what is open is counted, and the loop goes on -/
theorem k_172 {G : GX} {S : Shp} {I : Mem} {d : Nat} {Q : Option Value → Shp → Mem → Prop} {Z : List Int32} {v1 v2 v3 : Int32} {x4 : Option Value} (hsh : SHP S) (hd : 1 ≤ d) (hZ : ZR Z I) (hl : Z.length ≤ 96) (hQ : PW G RX9 "takesE" cX9_takesE 5 (some .boolean) d 0 0 Q 28 [some (.ref 55), some (.int v1), some (.int (nI (cnt (-10) Z))), some (.int v3), x4] [] S I) : PW G RX9 "takesE" cX9_takesE 5 (some .boolean) d 0 0 Q 172 [some (.ref 55), some (.int v1), some (.int v2), some (.int v3), x4] [] S I := by
  refine P_aload0 (pc' := 173) dX9_takesE_172 rfl ?_
  refine P_callV0 (pc' := 176) dX9_takesE_173 rfl lk_X9_231 (l_55 hsh) (t_55 hsh) (c_X9_notsOpen (d := 0) hsh hZ hl) (by omega) (Nat.le_of_ble_eq_true rfl) (fun r S' I' hq => ?_)
  obtain ⟨rfl, rfl, rfl⟩ := hq
  refine P_istore2 (pc' := 177) dX9_takesE_176 rfl (by decide) rfl ?_
  refine P_goto (tgt := 28) dX9_takesE_177 rfl ?_
  exact hQ
/-- when a piece is wanted -/
theorem k_want {G : GX} {S : Shp} {I0 I : Mem} {b : Nat → Int32} {d n key p : Nat} {r : Option (List Int32 × Nat)} {m : MS} {x4 : Option Value} (hsh : SHP S) (hn : n ≤ 96) (hk2 : key ≤ 2) (hd : 4 ≤ d) (hw : m.2.2.2.1 = true) (h : MR key b n m I) (hf : FrE I0 I)
    (nx : ∀ m' I' x4', mst key b n m = .inl m' → MR key b n m' I' → FrE I0 I' → PW G RX9 "takesE" cX9_takesE 5 (some .boolean) d 0 0 (TEQ S I0 r p) 28 (lsE m' x4') [] S I')
    (sp : ∀ r', mst key b n m = .inr r' → r = r' ∧ p = m.1.2.1) : PW G RX9 "takesE" cX9_takesE 5 (some .boolean) d 0 0 (TEQ S I0 r p) 28 (lsE m x4) [] S I := by
  obtain ⟨x, C, Z, wn, L, a⟩ := m
  have hw : wn = true := hw
  subst hw
  obtain ⟨g, hx, h12, hC, hZ, ⟨hT, hTl⟩, h17, hl, h8, hwf, -⟩ := h
  dsimp only at g hx h12 hC hZ hT hTl h17 hl h8 hwf
  obtain ⟨⟨⟨h6, hb⟩, h7, hE1, hE3⟩, h8f, h9, h10, h10n⟩ := id g
  have w1 := hx.1
  have w2 := hx.2.1
  have w3 := hx.2.2.1
  have t4 := tk_4 w1
  have c10 := cnt_le (-10) Z
  have em : mst key b n (x, C, Z, true, L, a) = if (x.1 = 3 ∧ b x.2.1 = 33) ∧ cnt (-10) Z < 8 then .inl (advL b n x, C, -10 :: Z, true, L, a) else if (x.1 = 3 ∧ b x.2.1 = 40) ∧ cnt (-11) Z < 8 then .inl (advL b n x, C, -11 :: Z, true, false :: L, a) else match prt key b x with
      | some v => .inl (advL b n x, (stl 6 Z (C ++ [v])).2, (stl 6 Z (C ++ [v])).1, false, L, a + 1)
      | none => .inr none := by
    unfold mst
    rw [if_pos rfl]
    first | rfl | (dsimp only; cases prt key b x <;> rfl)
  rw [em] at nx sp
  show PW G _ _ _ _ _ d 0 0 _ 28 [some (.ref 55), some (.int (nI (cnt (-11) Z))), some (.int (nI (cnt (-10) Z))), some (.int 1), x4] [] S I
  have k158 : ¬ ((x.1 = 3 ∧ b x.2.1 = 33) ∧ cnt (-10) Z < 8) → ¬ ((x.1 = 3 ∧ b x.2.1 = 40) ∧ cnt (-11) Z < 8) → PW G RX9 "takesE" cX9_takesE 5 (some .boolean) d 0 0 (TEQ S I0 r p) 158 [some (.ref 55), some (.int (nI (cnt (-11) Z))), some (.int (nI (cnt (-10) Z))), some (.int 1), x4] [] S I := by
    intro n1 n2
    rw [if_neg n1, if_neg n2] at nx sp
    cases hp : prt key b x with
    | none =>
      rw [hp] at sp
      obtain ⟨rfl, rfl⟩ := sp none rfl
      refine P_aload0 (pc' := 159) dX9_takesE_158 rfl ?_
      refine P_callV0 (pc' := 162) dX9_takesE_159 rfl lk_X9_228 (l_55 hsh) (t_55 hsh) (c_X9_takesPart (d := 3) hsh hn hk2 hx g h12 hC hZ h17 hl (by omega)) (by omega) (Nat.le_of_ble_eq_true rfl) (fun r S2 I2 hq => ?_)
      obtain ⟨rfl, hq⟩ := hq
      rw [hp] at hq
      obtain ⟨rfl, rfl⟩ := hq
      refine P_if_eq (tgt := 170) (pc' := 165) dX9_takesE_162 rfl rfl (fun h162 => ?_) (fun h162 => ?_)
      · refine P_iconst (pc' := 171) dX9_takesE_170 rfl (v := 0) rfl ?_
        refine P_zret dX9_takesE_171 (by first | exact Or.inl rfl | exact Or.inr rfl) ?_
        exact ⟨rfl, h8f, hf, rfl⟩
      · exact absurd rfl h162
    | some v =>
      rw [hp] at nx
      have x12 : x.1 = 1 ∨ x.1 = 2 := by
        unfold prt at hp
        split at hp
        · omega
        · split at hp
          · omega
          · cases hp
      have lt := hx.2.2.2.1 (by omega)
      have sl := stl_len 6 Z (C ++ [v])
      rw [List.length_append] at sl
      have sl : (stl 6 Z (C ++ [v])).2.length + (stl 6 Z (C ++ [v])).1.length = C.length + 1 + Z.length := sl
      have ao := (advL_ok (b := b) (n := n) (x := x) w3).2
      refine P_aload0 (pc' := 159) dX9_takesE_158 rfl ?_
      refine P_callV0 (pc' := 162) dX9_takesE_159 rfl lk_X9_228 (l_55 hsh) (t_55 hsh) (c_X9_takesPart (d := 3) hsh hn hk2 hx g h12 hC hZ h17 hl (by omega)) (by omega) (Nat.le_of_ble_eq_true rfl) (fun r S2 I2 hq => ?_)
      obtain ⟨rfl, hq⟩ := hq
      rw [hp] at hq
      obtain ⟨rfl, g2, c2, z2, a2, f2⟩ := hq
      refine P_if_eq (tgt := 170) (pc' := 165) dX9_takesE_162 rfl rfl (fun h162 => ?_) (fun h162 => ?_)
      · exact absurd h162 (by decide)
      · refine P_iconst (pc' := 166) dX9_takesE_165 rfl (v := 0) rfl ?_
        refine P_istore3 (pc' := 167) dX9_takesE_166 rfl (by decide) rfl ?_
        refine P_goto (tgt := 172) dX9_takesE_167 rfl ?_
        refine P_aload0 (pc' := 173) dX9_takesE_172 rfl ?_
        refine P_callV0 (pc' := 176) dX9_takesE_173 rfl lk_X9_231 (l_55 hsh) (t_55 hsh) (c_X9_notsOpen (d := 0) hsh z2 (by omega)) (by omega) (Nat.le_of_ble_eq_true rfl) (fun r S' I' hq => ?_)
        obtain ⟨rfl, rfl, rfl⟩ := hq
        refine P_istore2 (pc' := 177) dX9_takesE_176 rfl (by decide) rfl ?_
        refine P_goto (tgt := 28) dX9_takesE_177 rfl ?_
        have e11 := stl_11 6 Z (C ++ [v])
        have nxt := nx (advL b n x, (stl 6 Z (C ++ [v])).2, (stl 6 Z (C ++ [v])).1, false, L, a + 1) I2 x4 rfl ⟨g2, WOk.adv w3, by rw [f2.2 12 (by omega)]; exact h12, c2, z2, ⟨by rw [f2.1 65 (by decide) (by decide)]; exact hT, by rw [e11]; exact hTl⟩, a2, by dsimp only; omega, by rw [e11]; exact h8, stl_wf _ _ _ hwf, fun _ => stl_6n _ _ hwf⟩ ⟨fun y y1 y2 y3 y4 => by rw [f2.1 y y1 y2]; exact hf.1 y y1 y2 y3 y4, fun k hk => by rw [f2.2 k hk]; exact hf.2 k hk⟩
        unfold lsE at nxt
        dsimp only at nxt
        rw [e11] at nxt
        exact nxt
  have k97 : ¬ ((x.1 = 3 ∧ b x.2.1 = 33) ∧ cnt (-10) Z < 8) → PW G RX9 "takesE" cX9_takesE 5 (some .boolean) d 0 0 (TEQ S I0 r p) 97 [some (.ref 55), some (.int (nI (cnt (-11) Z))), some (.int (nI (cnt (-10) Z))), some (.int 1), x4] [] S I := by
    intro n1
    have k158 := k158 n1
    rw [if_neg n1] at nx
    by_cases q3 : x.1 = 3
    · have e9 : I 55 9 = 3 := by rw [h9, tk_3.mpr q3]; rfl
      have e10 := h10 (Or.inr q3)
      have lt := hx.2.2.2.1 (by omega)
      have key40 := (hb x.2.1 (by omega)).eq (c := 40) (by decide) (by decide)
      by_cases q40 : b x.2.1 = 40
      · have e10 : I 55 10 = 40 := by rw [e10]; exact key40.mpr q40
        by_cases q8 : cnt (-11) Z < 8
        · rw [if_pos ⟨⟨q3, q40⟩, q8⟩] at nx
          have ao := (advL_ok (b := b) (n := n) (x := x) w3).2
          refine P_aload0 (pc' := 98) dX9_takesE_97 rfl ?_
          refine P_geti (pc' := 101) dX9_takesE_98 rfl fl_X9_192 rfl (l_55 hsh) (t_55 hsh) ?_
          refine P_as e9 ?_
          refine P_iconst (pc' := 102) dX9_takesE_101 rfl (v := 3) rfl ?_
          refine P_icmp_ne (tgt := 158) (pc' := 105) dX9_takesE_102 rfl rfl (fun h102 => ?_) (fun h102 => ?_)
          · exact absurd rfl h102
          · refine P_aload0 (pc' := 106) dX9_takesE_105 rfl ?_
            refine P_geti (pc' := 109) dX9_takesE_106 rfl fl_X9_198 rfl (l_55 hsh) (t_55 hsh) ?_
            refine P_as e10 ?_
            refine P_bipush (pc' := 111) dX9_takesE_109 rfl (v := 40) rfl ?_
            refine P_icmp_ne (tgt := 158) (pc' := 114) dX9_takesE_111 rfl rfl (fun h111 => ?_) (fun h111 => ?_)
            · exact absurd rfl h111
            · refine P_iload1 (pc' := 115) dX9_takesE_114 rfl ?_
              refine P_bipush (pc' := 117) dX9_takesE_115 rfl (v := 8) rfl ?_
              refine P_icmp_ge (tgt := 158) (pc' := 120) dX9_takesE_117 rfl rfl (fun h117 => ?_) (fun h117 => ?_)
              · exact absurd h117 (nI_ge (b := 8) q8 (by decide))
              · refine P_aload0 (pc' := 121) dX9_takesE_120 rfl ?_
                refine P_getr (pc' := 124) dX9_takesE_121 rfl fl_X9_35 rfl (l_55 hsh) (t_55 hsh) (q_55_18 hsh) ?_
                refine P_aload0 (pc' := 125) dX9_takesE_124 rfl ?_
                refine P_geti (pc' := 128) dX9_takesE_125 rfl fl_X9_210 rfl (l_55 hsh) (t_55 hsh) ?_
                refine P_as hZ.1 ?_
                refine P_bipush (pc' := 130) dX9_takesE_128 rfl (v := (-11)) rfl ?_
                refine P_iast (pc' := 131) dX9_takesE_130 rfl (l_64 hsh) (t_64 hsh) (j := Z.length) rfl (by omega) (by decide) ?_
                refine P_aload0 (pc' := 132) dX9_takesE_131 rfl ?_
                refine P_dup (pc' := 133) dX9_takesE_132 rfl rfl ?_
                refine P_geti (pc' := 136) dX9_takesE_133 rfl fl_X9_210 rfl (l_55 hsh) (t_55 hsh) ?_
                refine P_as (y := nI Z.length) (by rw [u2_a (by decide)]; exact hZ.1) ?_
                refine P_iconst (pc' := 137) dX9_takesE_136 rfl (v := 1) rfl ?_
                refine P_iadd (pc' := 138) dX9_takesE_137 rfl ?_
                refine P_as (nI_1 _) ?_
                refine P_puti (pc' := 141) dX9_takesE_138 rfl fl_X9_210 rfl (l_55 hsh) (t_55 hsh) ?_
                refine P_iinc1 (pc' := 144) dX9_takesE_141 rfl (nI_1 _) (by decide) rfl ?_
                refine P_aload0 (pc' := 145) dX9_takesE_144 rfl ?_
                refine P_getr (pc' := 148) dX9_takesE_145 rfl fl_X9_38 rfl (l_55 hsh) (t_55 hsh) (q_55_20 hsh) ?_
                refine P_iload1 (pc' := 149) dX9_takesE_148 rfl ?_
                refine P_iconst (pc' := 150) dX9_takesE_149 rfl (v := 0) rfl ?_
                refine P_zast (pc' := 151) dX9_takesE_150 rfl (l_65 hsh) (t_65 hsh) (j := cnt (-11) Z + 1) rfl (by omega) (by decide) ?_
                refine P_aload0 (pc' := 152) dX9_takesE_151 rfl ?_
                refine P_callV0 (pc' := 155) dX9_takesE_152 rfl lk_X9_207 (l_55 hsh) (t_55 hsh) (c_X9_go (d := 1) (b := b) (n := n) (x := x) hsh hn w3 (by omega) (g.1.mv (by rw [u2_row (by decide), u2_row (by decide), u2_row (by decide)]) (fun k hk => by rw [u2_a (by decide), u2_k (by omega), u2_a (by decide)])) (by omega)) (by omega) (Nat.le_of_ble_eq_true rfl) (fun r S2 I2 hq => ?_)
                obtain ⟨rfl, rfl, g2, f2⟩ := hq
                refine P_goto (tgt := 172) dX9_takesE_155 rfl ?_
                have hZ2 : ZR (-11 :: Z) I2 := ⟨by rw [f2.2 19 (by omega), u2_a (by decide), u2_s]; rfl, by rw [f2.1 64 (by decide), u2_a (by decide), u2_a (by decide), u2_s], hZ.2.cg (fun k hk => by rw [f2.1 64 (by decide), u2_a (by decide), u2_a (by decide), u2_k (by omega)])⟩
                refine k_172 hsh (by omega) hZ2 (by show Z.length + 1 ≤ 96; omega) ?_
                have e11 : cnt (-11) (-11 :: Z) = cnt (-11) Z + 1 := by rw [cnt_s, if_pos rfl, Nat.add_comm]
                have nxt := nx (advL b n x, C, -11 :: Z, true, false :: L, a) I2 x4 rfl ⟨g2, WOk.adv w3, by rw [f2.2 12 (by omega), u2_a (by decide), u2_k (by decide), u2_a (by decide)]; exact h12, ⟨by rw [f2.2 16 (by omega), u2_a (by decide), u2_k (by decide), u2_a (by decide)]; exact hC.1, fun k hk => by rw [f2.1 63 (by decide), u2_a (by decide), u2_a (by decide), u2_a (by decide)]; exact hC.2 k hk⟩, hZ2, ⟨⟨by rw [f2.1 65 (by decide), hTl, u2_s]; rfl, hT.cg (fun k hk => by rw [f2.1 65 (by decide), u2_k (by omega), u2_a (by decide), u2_a (by decide)])⟩, by rw [e11, List.length_cons, hTl]⟩, by rw [f2.2 17 (by omega), u2_a (by decide), u2_k (by decide), u2_a (by decide)]; exact h17, by dsimp only; rw [List.length_cons]; omega, by rw [e11]; omega, ⟨hwf, Or.inr (Or.inl rfl)⟩, fun z => by cases z⟩ ⟨fun y y1 y2 y3 y4 => by rw [f2.1 y y1, u2_row y4, u2_row y1, u2_row y3]; exact hf.1 y y1 y2 y3 y4, fun k hk => by rw [f2.2 k (by omega), u2_a (by decide), u2_k (by omega), u2_a (by decide)]; exact hf.2 k hk⟩
                unfold lsE at nxt
                dsimp only at nxt
                rw [e11] at nxt
                exact nxt
        · have k158 := k158 (fun z => q8 z.2)
          refine P_aload0 (pc' := 98) dX9_takesE_97 rfl ?_
          refine P_geti (pc' := 101) dX9_takesE_98 rfl fl_X9_192 rfl (l_55 hsh) (t_55 hsh) ?_
          refine P_as e9 ?_
          refine P_iconst (pc' := 102) dX9_takesE_101 rfl (v := 3) rfl ?_
          refine P_icmp_ne (tgt := 158) (pc' := 105) dX9_takesE_102 rfl rfl (fun h102 => ?_) (fun h102 => ?_)
          · exact absurd rfl h102
          · refine P_aload0 (pc' := 106) dX9_takesE_105 rfl ?_
            refine P_geti (pc' := 109) dX9_takesE_106 rfl fl_X9_198 rfl (l_55 hsh) (t_55 hsh) ?_
            refine P_as e10 ?_
            refine P_bipush (pc' := 111) dX9_takesE_109 rfl (v := 40) rfl ?_
            refine P_icmp_ne (tgt := 158) (pc' := 114) dX9_takesE_111 rfl rfl (fun h111 => ?_) (fun h111 => ?_)
            · exact absurd rfl h111
            · refine P_iload1 (pc' := 115) dX9_takesE_114 rfl ?_
              refine P_bipush (pc' := 117) dX9_takesE_115 rfl (v := 8) rfl ?_
              refine P_icmp_ge (tgt := 158) (pc' := 120) dX9_takesE_117 rfl rfl (fun h117 => ?_) (fun h117 => ?_)
              · exact k158
              · exact absurd (nI_le (a := 8) (by omega) (by omega)) h117
      · have k158 := k158 (fun z => q40 z.1.2)
        refine P_aload0 (pc' := 98) dX9_takesE_97 rfl ?_
        refine P_geti (pc' := 101) dX9_takesE_98 rfl fl_X9_192 rfl (l_55 hsh) (t_55 hsh) ?_
        refine P_as e9 ?_
        refine P_iconst (pc' := 102) dX9_takesE_101 rfl (v := 3) rfl ?_
        refine P_icmp_ne (tgt := 158) (pc' := 105) dX9_takesE_102 rfl rfl (fun h102 => ?_) (fun h102 => ?_)
        · exact absurd rfl h102
        · refine P_aload0 (pc' := 106) dX9_takesE_105 rfl ?_
          refine P_geti (pc' := 109) dX9_takesE_106 rfl fl_X9_198 rfl (l_55 hsh) (t_55 hsh) ?_
          refine P_as e10 ?_
          refine P_bipush (pc' := 111) dX9_takesE_109 rfl (v := 40) rfl ?_
          refine P_icmp_ne (tgt := 158) (pc' := 114) dX9_takesE_111 rfl rfl (fun h111 => ?_) (fun h111 => ?_)
          · exact k158
          · exact absurd (key40.mp h111) q40
    · have k158 := k158 (fun z => q3 z.1.1)
      refine P_aload0 (pc' := 98) dX9_takesE_97 rfl ?_
      refine P_geti (pc' := 101) dX9_takesE_98 rfl fl_X9_192 rfl (l_55 hsh) (t_55 hsh) ?_
      refine P_as h9 ?_
      refine P_iconst (pc' := 102) dX9_takesE_101 rfl (v := 3) rfl ?_
      refine P_icmp_ne (tgt := 158) (pc' := 105) dX9_takesE_102 rfl rfl (fun h102 => ?_) (fun h102 => ?_)
      · exact k158
      · exact absurd (tk_3.mp ((nI_eq (b := 3) (by omega) (by decide)).mp h102)) q3
  by_cases q3 : x.1 = 3
  · have e9 : I 55 9 = 3 := by rw [h9, tk_3.mpr q3]; rfl
    have e10 := h10 (Or.inr q3)
    have lt := hx.2.2.2.1 (by omega)
    have key33 := (hb x.2.1 (by omega)).eq (c := 33) (by decide) (by decide)
    by_cases q33 : b x.2.1 = 33
    · have e10 : I 55 10 = 33 := by rw [e10]; exact key33.mpr q33
      by_cases q8 : cnt (-10) Z < 8
      · rw [if_pos ⟨⟨q3, q33⟩, q8⟩] at nx
        have ao := (advL_ok (b := b) (n := n) (x := x) w3).2
        refine P_iload3 (pc' := 29) dX9_takesE_28 rfl ?_
        refine P_if_ne (tgt := 39) (pc' := 32) dX9_takesE_29 rfl rfl (fun h29 => ?_) (fun h29 => ?_)
        · refine P_iload3 (pc' := 40) dX9_takesE_39 rfl ?_
          refine P_if_eq (tgt := 180) (pc' := 43) dX9_takesE_40 rfl rfl (fun h40 => ?_) (fun h40 => ?_)
          · exact absurd h40 (by decide)
          · refine P_aload0 (pc' := 44) dX9_takesE_43 rfl ?_
            refine P_geti (pc' := 47) dX9_takesE_44 rfl fl_X9_192 rfl (l_55 hsh) (t_55 hsh) ?_
            refine P_as e9 ?_
            refine P_iconst (pc' := 48) dX9_takesE_47 rfl (v := 3) rfl ?_
            refine P_icmp_ne (tgt := 97) (pc' := 51) dX9_takesE_48 rfl rfl (fun h48 => ?_) (fun h48 => ?_)
            · exact absurd rfl h48
            · refine P_aload0 (pc' := 52) dX9_takesE_51 rfl ?_
              refine P_geti (pc' := 55) dX9_takesE_52 rfl fl_X9_198 rfl (l_55 hsh) (t_55 hsh) ?_
              refine P_as e10 ?_
              refine P_bipush (pc' := 57) dX9_takesE_55 rfl (v := 33) rfl ?_
              refine P_icmp_ne (tgt := 97) (pc' := 60) dX9_takesE_57 rfl rfl (fun h57 => ?_) (fun h57 => ?_)
              · exact absurd rfl h57
              · refine P_iload2 (pc' := 61) dX9_takesE_60 rfl ?_
                refine P_bipush (pc' := 63) dX9_takesE_61 rfl (v := 8) rfl ?_
                refine P_icmp_ge (tgt := 97) (pc' := 66) dX9_takesE_63 rfl rfl (fun h63 => ?_) (fun h63 => ?_)
                · exact absurd h63 (nI_ge (b := 8) q8 (by decide))
                · refine P_aload0 (pc' := 67) dX9_takesE_66 rfl ?_
                  refine P_getr (pc' := 70) dX9_takesE_67 rfl fl_X9_35 rfl (l_55 hsh) (t_55 hsh) (q_55_18 hsh) ?_
                  refine P_aload0 (pc' := 71) dX9_takesE_70 rfl ?_
                  refine P_geti (pc' := 74) dX9_takesE_71 rfl fl_X9_210 rfl (l_55 hsh) (t_55 hsh) ?_
                  refine P_as hZ.1 ?_
                  refine P_bipush (pc' := 76) dX9_takesE_74 rfl (v := (-10)) rfl ?_
                  refine P_iast (pc' := 77) dX9_takesE_76 rfl (l_64 hsh) (t_64 hsh) (j := Z.length) rfl (by omega) (by decide) ?_
                  refine P_aload0 (pc' := 78) dX9_takesE_77 rfl ?_
                  refine P_dup (pc' := 79) dX9_takesE_78 rfl rfl ?_
                  refine P_geti (pc' := 82) dX9_takesE_79 rfl fl_X9_210 rfl (l_55 hsh) (t_55 hsh) ?_
                  refine P_as (y := nI Z.length) (by rw [u2_a (by decide)]; exact hZ.1) ?_
                  refine P_iconst (pc' := 83) dX9_takesE_82 rfl (v := 1) rfl ?_
                  refine P_iadd (pc' := 84) dX9_takesE_83 rfl ?_
                  refine P_as (nI_1 _) ?_
                  refine P_puti (pc' := 87) dX9_takesE_84 rfl fl_X9_210 rfl (l_55 hsh) (t_55 hsh) ?_
                  refine P_iinc2 (pc' := 90) dX9_takesE_87 rfl (nI_1 _) (by decide) rfl ?_
                  refine P_aload0 (pc' := 91) dX9_takesE_90 rfl ?_
                  refine P_callV0 (pc' := 94) dX9_takesE_91 rfl lk_X9_207 (l_55 hsh) (t_55 hsh) (c_X9_go (d := 1) (b := b) (n := n) (x := x) hsh hn w3 (by omega) (g.1.mv (by rw [u2_row (by decide), u2_row (by decide)]) (fun k hk => by rw [u2_k (by omega), u2_a (by decide)])) (by omega)) (by omega) (Nat.le_of_ble_eq_true rfl) (fun r S2 I2 hq => ?_)
                  obtain ⟨rfl, rfl, g2, f2⟩ := hq
                  refine P_goto (tgt := 172) dX9_takesE_94 rfl ?_
                  have hZ2 : ZR (-10 :: Z) I2 := ⟨by rw [f2.2 19 (by omega), u2_s]; rfl, by rw [f2.1 64 (by decide), u2_a (by decide), u2_s], hZ.2.cg (fun k hk => by rw [f2.1 64 (by decide), u2_a (by decide), u2_k (by omega)])⟩
                  refine k_172 hsh (by omega) hZ2 (by show Z.length + 1 ≤ 96; omega) ?_
                  have e11 : cnt (-11) (-10 :: Z) = cnt (-11) Z := by rw [cnt_s, if_neg (by decide), Nat.zero_add]
                  have nxt := nx (advL b n x, C, -10 :: Z, true, L, a) I2 x4 rfl ⟨g2, WOk.adv w3, by rw [f2.2 12 (by omega), u2_k (by decide), u2_a (by decide)]; exact h12, ⟨by rw [f2.2 16 (by omega), u2_k (by decide), u2_a (by decide)]; exact hC.1, fun k hk => by rw [f2.1 63 (by decide), u2_a (by decide), u2_a (by decide)]; exact hC.2 k hk⟩, hZ2, ⟨hT.cg (fun k hk => by rw [f2.1 65 (by decide), u2_a (by decide), u2_a (by decide)]), by rw [e11]; exact hTl⟩, by rw [f2.2 17 (by omega), u2_k (by decide), u2_a (by decide)]; exact h17, by dsimp only; rw [List.length_cons]; omega, by rw [e11]; exact h8, ⟨hwf, Or.inl rfl⟩, fun z => by cases z⟩ ⟨fun y y1 y2 y3 y4 => by rw [f2.1 y y1, u2_row y1, u2_row y3]; exact hf.1 y y1 y2 y3 y4, fun k hk => by rw [f2.2 k (by omega), u2_k (by omega), u2_a (by decide)]; exact hf.2 k hk⟩
                  unfold lsE at nxt
                  dsimp only at nxt
                  rw [e11] at nxt
                  exact nxt
        · exact absurd h29 (by decide)
      · have k97 := k97 (fun z => q8 z.2)
        refine P_iload3 (pc' := 29) dX9_takesE_28 rfl ?_
        refine P_if_ne (tgt := 39) (pc' := 32) dX9_takesE_29 rfl rfl (fun h29 => ?_) (fun h29 => ?_)
        · refine P_iload3 (pc' := 40) dX9_takesE_39 rfl ?_
          refine P_if_eq (tgt := 180) (pc' := 43) dX9_takesE_40 rfl rfl (fun h40 => ?_) (fun h40 => ?_)
          · exact absurd h40 (by decide)
          · refine P_aload0 (pc' := 44) dX9_takesE_43 rfl ?_
            refine P_geti (pc' := 47) dX9_takesE_44 rfl fl_X9_192 rfl (l_55 hsh) (t_55 hsh) ?_
            refine P_as e9 ?_
            refine P_iconst (pc' := 48) dX9_takesE_47 rfl (v := 3) rfl ?_
            refine P_icmp_ne (tgt := 97) (pc' := 51) dX9_takesE_48 rfl rfl (fun h48 => ?_) (fun h48 => ?_)
            · exact absurd rfl h48
            · refine P_aload0 (pc' := 52) dX9_takesE_51 rfl ?_
              refine P_geti (pc' := 55) dX9_takesE_52 rfl fl_X9_198 rfl (l_55 hsh) (t_55 hsh) ?_
              refine P_as e10 ?_
              refine P_bipush (pc' := 57) dX9_takesE_55 rfl (v := 33) rfl ?_
              refine P_icmp_ne (tgt := 97) (pc' := 60) dX9_takesE_57 rfl rfl (fun h57 => ?_) (fun h57 => ?_)
              · exact absurd rfl h57
              · refine P_iload2 (pc' := 61) dX9_takesE_60 rfl ?_
                refine P_bipush (pc' := 63) dX9_takesE_61 rfl (v := 8) rfl ?_
                refine P_icmp_ge (tgt := 97) (pc' := 66) dX9_takesE_63 rfl rfl (fun h63 => ?_) (fun h63 => ?_)
                · exact k97
                · exact absurd (nI_le (a := 8) (by omega) (by omega)) h63
        · exact absurd h29 (by decide)
    · have k97 := k97 (fun z => q33 z.1.2)
      refine P_iload3 (pc' := 29) dX9_takesE_28 rfl ?_
      refine P_if_ne (tgt := 39) (pc' := 32) dX9_takesE_29 rfl rfl (fun h29 => ?_) (fun h29 => ?_)
      · refine P_iload3 (pc' := 40) dX9_takesE_39 rfl ?_
        refine P_if_eq (tgt := 180) (pc' := 43) dX9_takesE_40 rfl rfl (fun h40 => ?_) (fun h40 => ?_)
        · exact absurd h40 (by decide)
        · refine P_aload0 (pc' := 44) dX9_takesE_43 rfl ?_
          refine P_geti (pc' := 47) dX9_takesE_44 rfl fl_X9_192 rfl (l_55 hsh) (t_55 hsh) ?_
          refine P_as e9 ?_
          refine P_iconst (pc' := 48) dX9_takesE_47 rfl (v := 3) rfl ?_
          refine P_icmp_ne (tgt := 97) (pc' := 51) dX9_takesE_48 rfl rfl (fun h48 => ?_) (fun h48 => ?_)
          · exact absurd rfl h48
          · refine P_aload0 (pc' := 52) dX9_takesE_51 rfl ?_
            refine P_geti (pc' := 55) dX9_takesE_52 rfl fl_X9_198 rfl (l_55 hsh) (t_55 hsh) ?_
            refine P_as e10 ?_
            refine P_bipush (pc' := 57) dX9_takesE_55 rfl (v := 33) rfl ?_
            refine P_icmp_ne (tgt := 97) (pc' := 60) dX9_takesE_57 rfl rfl (fun h57 => ?_) (fun h57 => ?_)
            · exact k97
            · exact absurd (key33.mp h57) q33
      · exact absurd h29 (by decide)
  · have k97 := k97 (fun z => q3 z.1.1)
    refine P_iload3 (pc' := 29) dX9_takesE_28 rfl ?_
    refine P_if_ne (tgt := 39) (pc' := 32) dX9_takesE_29 rfl rfl (fun h29 => ?_) (fun h29 => ?_)
    · refine P_iload3 (pc' := 40) dX9_takesE_39 rfl ?_
      refine P_if_eq (tgt := 180) (pc' := 43) dX9_takesE_40 rfl rfl (fun h40 => ?_) (fun h40 => ?_)
      · exact absurd h40 (by decide)
      · refine P_aload0 (pc' := 44) dX9_takesE_43 rfl ?_
        refine P_geti (pc' := 47) dX9_takesE_44 rfl fl_X9_192 rfl (l_55 hsh) (t_55 hsh) ?_
        refine P_as h9 ?_
        refine P_iconst (pc' := 48) dX9_takesE_47 rfl (v := 3) rfl ?_
        refine P_icmp_ne (tgt := 97) (pc' := 51) dX9_takesE_48 rfl rfl (fun h48 => ?_) (fun h48 => ?_)
        · exact k97
        · exact absurd (tk_3.mp ((nI_eq (b := 3) (by omega) (by decide)).mp h48)) q3
    · exact absurd h29 (by decide)

