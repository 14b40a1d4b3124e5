def tk (x : Lx) : Nat := if x.1 = 2 ∧ 4 < x.2.2 - x.2.1 then 4 else x.1
def GoI (b : Nat → Int32) (n : Nat) (x : Lx) (J : Mem) : Prop := (J 55 6 = nI n ∧ BT b J) ∧ J 55 7 = nI x.2.2 ∧ (x.1 = 1 ∨ x.1 = 2 → J 55 11 = nI x.2.2) ∧ (x.1 = 3 → ∀ p, x.2.2 ≤ p → p ≤ n → J 55 11 ≠ nI p)
def GoR (b : Nat → Int32) (n : Nat) (x : Lx) (J : Mem) : Prop := GoI b n x J ∧ J 55 8 = nI x.2.1 ∧ J 55 9 = nI (tk x) ∧ (x.1 = 1 ∨ x.1 = 3 → J 55 10 = J 60 x.2.1) ∧ (x.1 = 2 → x.2.2 - x.2.1 ≤ 4 → J 55 10 = nmb b (x.2.2 - x.2.1) x.2.1 0)
def FrG (I J : Mem) : Prop := (∀ y, y ≠ 55 → J y = I y) ∧ ∀ k, (k < 7 ∨ 11 < k) → J 55 k = I 55 k
theorem BT.mv {b : Nat → Int32} {I J : Mem} (h : BT b I) (e : J 60 = I 60) : BT b J := fun k hk => by rw [e]; exact h k hk
theorem BT.u {b : Nat → Int32} {I : Mem} (h : BT b I) {k : Nat} {v : Int32} : BT b (u2 I 55 k v) := h.mv (u2_row (by decide))
theorem ifz {p : Prop} [Decidable p] : (if p then (1 : Int32) else 0) = 0 ↔ ¬ p := by
  by_cases q : p
  · rw [if_pos q]; exact ⟨fun z => absurd z (by decide), fun z => absurd q z⟩
  · rw [if_neg q]; exact ⟨fun _ => q, fun _ => rfl⟩
theorem lp_go1 {G : GX} {S : Shp} {I : Mem} {b : Nat → Int32} {d n : Nat} {Q : Option Value → Shp → Mem → Prop} {l1 : Option Value} (hsh : SHP S) (h6 : I 55 6 = nI n) (hb : BT b I) (hn : n ≤ 96) : ∀ (k p : Nat), p + k = n → PW G RX9 "go" cX9_go 2 none d 0 0 Q 38 [some (.ref 55), l1] [] S (u2 I 55 7 (nI (skp b n k p))) → PW G RX9 "go" cX9_go 2 none d 0 0 Q 0 [some (.ref 55), l1] [] S (u2 I 55 7 (nI p)) := by
  intro k
  induction k with
  | zero =>
    intro p hp hQ
    refine P_aload0 (pc' := 1) dX9_go_0 rfl ?_
    refine P_geti (pc' := 4) dX9_go_1 rfl fl_X9_183 rfl (l_55 hsh) (t_55 hsh) ?_
    refine P_as (u2_s _ _ _ _) ?_
    refine P_aload0 (pc' := 5) dX9_go_4 rfl ?_
    refine P_geti (pc' := 8) dX9_go_5 rfl fl_X9_179 rfl (l_55 hsh) (t_55 hsh) ?_
    refine P_as (y := nI n) (by rw [u2_k (by decide)]; exact h6) ?_
    refine P_icmp_ge (tgt := 38) (pc' := 11) dX9_go_8 rfl rfl (fun h8 => ?_) (fun h8 => ?_)
    · exact hQ
    · exact absurd (nI_le (by omega) (by omega)) h8
  | succ k ih =>
    intro p hp hQ
    rw [skp_s] at hQ
    have key := (hb p (by omega)).eq (c := 32) (by decide) (by decide)
    refine P_aload0 (pc' := 1) dX9_go_0 rfl ?_
    refine P_geti (pc' := 4) dX9_go_1 rfl fl_X9_183 rfl (l_55 hsh) (t_55 hsh) ?_
    refine P_as (u2_s _ _ _ _) ?_
    refine P_aload0 (pc' := 5) dX9_go_4 rfl ?_
    refine P_geti (pc' := 8) dX9_go_5 rfl fl_X9_179 rfl (l_55 hsh) (t_55 hsh) ?_
    refine P_as (y := nI n) (by rw [u2_k (by decide)]; exact h6) ?_
    refine P_icmp_ge (tgt := 38) (pc' := 11) dX9_go_8 rfl rfl (fun h8 => ?_) (fun h8 => ?_)
    · exact absurd h8 (nI_ge (by omega) (by omega))
    · refine P_aload0 (pc' := 12) dX9_go_11 rfl ?_
      refine P_getr (pc' := 15) dX9_go_12 rfl fl_X9_22 rfl (l_55 hsh) (t_55 hsh) (q_55_5 hsh) ?_
      refine P_aload0 (pc' := 16) dX9_go_15 rfl ?_
      refine P_geti (pc' := 19) dX9_go_16 rfl fl_X9_183 rfl (l_55 hsh) (t_55 hsh) ?_
      refine P_as (u2_s _ _ _ _) ?_
      refine P_iald (pc' := 20) dX9_go_19 rfl (l_60 hsh) (t_60 hsh) (j := p) rfl (by omega) (by decide) ?_
      refine P_as (y := I 60 p) (u2_a (by decide)) ?_
      refine P_bipush (pc' := 22) dX9_go_20 rfl (v := 32) rfl ?_
      refine P_icmp_ne (tgt := 38) (pc' := 25) dX9_go_22 rfl rfl (fun h22 => ?_) (fun h22 => ?_)
      · rw [if_neg (fun z => h22 (key.mpr z.2))] at hQ
        exact hQ
      · refine P_aload0 (pc' := 26) dX9_go_25 rfl ?_
        refine P_dup (pc' := 27) dX9_go_26 rfl rfl ?_
        refine P_geti (pc' := 30) dX9_go_27 rfl fl_X9_183 rfl (l_55 hsh) (t_55 hsh) ?_
        refine P_as (u2_s _ _ _ _) ?_
        refine P_iconst (pc' := 31) dX9_go_30 rfl (v := 1) rfl ?_
        refine P_iadd (pc' := 32) dX9_go_31 rfl ?_
        refine P_as (nI_1 p) ?_
        refine P_puti (pc' := 35) dX9_go_32 rfl fl_X9_183 rfl (l_55 hsh) (t_55 hsh) ?_
        refine P_goto (tgt := 0) dX9_go_35 rfl ?_
        rw [if_pos ⟨by omega, key.mp h22⟩] at hQ
        rw [u2_u2]
        exact ih (p + 1) (by omega) hQ
theorem lp_go2 {G : GX} {S : Shp} {I : Mem} {b : Nat → Int32} {d n : Nat} {Q : Option Value → Shp → Mem → Prop} {l1 : Option Value} (hsh : SHP S) (h6 : I 55 6 = nI n) (hb : BT b I) (hn : n ≤ 96) (hd : 1 ≤ d) : ∀ (k q : Nat), q + k = n → PW G RX9 "go" cX9_go 2 none d 0 0 Q 117 [some (.ref 55), l1] [] S (u2 I 55 7 (nI (wrd b n 1 k q))) → PW G RX9 "go" cX9_go 2 none d 0 0 Q 93 [some (.ref 55), l1] [] S (u2 I 55 7 (nI q)) := by
  intro k
  induction k with
  | zero =>
    intro q hq hQ
    have z0 : ¬ sAt b n q = 1 := by rw [sAt_0.mpr (by omega)]; decide
    refine P_aload0 (pc' := 94) dX9_go_93 rfl ?_
    refine P_aload0 (pc' := 95) dX9_go_94 rfl ?_
    refine P_geti (pc' := 98) dX9_go_95 rfl fl_X9_183 rfl (l_55 hsh) (t_55 hsh) ?_
    refine P_as (u2_s _ _ _ _) ?_
    refine P_callV1 (pc' := 101) dX9_go_98 rfl lk_X9_195 (l_55 hsh) (t_55 hsh) (c_X9_isLetter (d := 0) (b := b) (n := n) (p := q) hsh (by rw [u2_k (by decide)]; exact h6) hb.u hn (by omega)) (by omega) (Nat.le_of_ble_eq_true rfl) (fun r S' I' hq => ?_)
    obtain ⟨rfl, rfl, rfl⟩ := hq
    refine P_if_eq (tgt := 117) (pc' := 104) dX9_go_101 rfl rfl (fun h101 => ?_) (fun h101 => ?_)
    · exact hQ
    · exact absurd (ifz.mpr z0) h101
  | succ k ih =>
    intro q hq hQ
    rw [wrd_s] at hQ
    refine P_aload0 (pc' := 94) dX9_go_93 rfl ?_
    refine P_aload0 (pc' := 95) dX9_go_94 rfl ?_
    refine P_geti (pc' := 98) dX9_go_95 rfl fl_X9_183 rfl (l_55 hsh) (t_55 hsh) ?_
    refine P_as (u2_s _ _ _ _) ?_
    refine P_callV1 (pc' := 101) dX9_go_98 rfl lk_X9_195 (l_55 hsh) (t_55 hsh) (c_X9_isLetter (d := 0) (b := b) (n := n) (p := q) hsh (by rw [u2_k (by decide)]; exact h6) hb.u hn (by omega)) (by omega) (Nat.le_of_ble_eq_true rfl) (fun r S' I' hq => ?_)
    obtain ⟨rfl, rfl, rfl⟩ := hq
    refine P_if_eq (tgt := 117) (pc' := 104) dX9_go_101 rfl rfl (fun h101 => ?_) (fun h101 => ?_)
    · rw [if_neg (fun z => ifz.mp h101 z.2)] at hQ
      exact hQ
    · refine P_aload0 (pc' := 105) dX9_go_104 rfl ?_
      refine P_dup (pc' := 106) dX9_go_105 rfl rfl ?_
      refine P_geti (pc' := 109) dX9_go_106 rfl fl_X9_183 rfl (l_55 hsh) (t_55 hsh) ?_
      refine P_as (u2_s _ _ _ _) ?_
      refine P_iconst (pc' := 110) dX9_go_109 rfl (v := 1) rfl ?_
      refine P_iadd (pc' := 111) dX9_go_110 rfl ?_
      refine P_as (nI_1 q) ?_
      refine P_puti (pc' := 114) dX9_go_111 rfl fl_X9_183 rfl (l_55 hsh) (t_55 hsh) ?_
      refine P_goto (tgt := 93) dX9_go_114 rfl ?_
      rw [if_pos ⟨by omega, Classical.byContradiction (fun z => h101 (ifz.mpr z))⟩] at hQ
      rw [u2_u2]
      exact ih (q + 1) (by omega) hQ
theorem i_dig (v t : Int32) : 10 * v + t - 48 = v * 10 + (t - 48) := by
  rw [Int32.mul_comm, Int32.sub_eq_add_neg, Int32.sub_eq_add_neg, Int32.add_assoc]
theorem lp_go3 {G : GX} {S : Shp} {I : Mem} {b : Nat → Int32} {d n p : Nat} {Q : Option Value → Shp → Mem → Prop} {l1 : Option Value} (hsh : SHP S) (h6 : I 55 6 = nI n) (h8 : I 55 8 = nI p) (hb : BT b I) (hn : n ≤ 96) (hd : 1 ≤ d) : ∀ (k q : Nat) (v : Int32), q + k = n → p ≤ q → (∀ v', (wrd b n 2 k q - p ≤ 4 → v' = nmb b (wrd b n 2 k q - q) q v) → PW G RX9 "go" cX9_go 2 none d 0 0 Q 238 [some (.ref 55), l1] [] S (u2 (u2 I 55 10 v') 55 7 (nI (wrd b n 2 k q)))) → PW G RX9 "go" cX9_go 2 none d 0 0 Q 170 [some (.ref 55), l1] [] S (u2 (u2 I 55 10 v) 55 7 (nI q)) := by
  intro k
  induction k with
  | zero =>
    intro q v hq hp hQ
    have z0 : ¬ sAt b n q = 2 := by rw [sAt_0.mpr (by omega)]; decide
    have hQ : ∀ v', (q - p ≤ 4 → v' = nmb b (q - q) q v) → PW G RX9 "go" cX9_go 2 none d 0 0 Q 238 [some (.ref 55), l1] [] S (u2 (u2 I 55 10 v') 55 7 (nI q)) := hQ
    refine P_aload0 (pc' := 171) dX9_go_170 rfl ?_
    refine P_aload0 (pc' := 172) dX9_go_171 rfl ?_
    refine P_geti (pc' := 175) dX9_go_172 rfl fl_X9_183 rfl (l_55 hsh) (t_55 hsh) ?_
    refine P_as (u2_s _ _ _ _) ?_
    refine P_callV1 (pc' := 178) dX9_go_175 rfl lk_X9_201 (l_55 hsh) (t_55 hsh) (c_X9_isFigure (d := 0) (b := b) (n := n) (p := q) hsh (by rw [u2_k (by decide), u2_k (by decide)]; exact h6) hb.u.u hn (by omega)) (by omega) (Nat.le_of_ble_eq_true rfl) (fun r S' I' hq => ?_)
    obtain ⟨rfl, rfl, rfl⟩ := hq
    refine P_if_eq (tgt := 238) (pc' := 181) dX9_go_178 rfl rfl (fun h178 => ?_) (fun h178 => ?_)
    · exact hQ v (fun _ => by rw [Nat.sub_self]; rfl)
    · exact absurd (ifz.mpr z0) h178
  | succ k ih =>
    intro q v hq hp hQ
    rw [wrd_s] at hQ
    by_cases z0 : sAt b n q = 2
    · rw [if_pos ⟨by omega, z0⟩] at hQ
      have eb : I 60 q = b q := (hb q (by omega)).pos (Int32.le_trans (by decide) (sAt_2 z0).1)
      have wb := (wrd_b (b := b) (n := n) (s := 2) k (q + 1) (by omega)).1
      have es : nI q - nI p = nI (q - p) := pk_sub (by omega)
      have sw : ∀ v w : Int32, u2 (u2 (u2 (u2 I 55 10 v) 55 7 (nI q)) 55 10 w) 55 7 (nI (q + 1)) = u2 (u2 I 55 10 w) 55 7 (nI (q + 1)) := by
        intro v w
        funext y z
        simp only [u2]
        repeat' split
        all_goals first | rfl | omega
      have k225 : ∀ w : Int32, (q - p < 4 → w = v * 10 + (b q - 48)) → PW G RX9 "go" cX9_go 2 none d 0 0 Q 225 [some (.ref 55), l1] [] S (u2 (u2 (u2 I 55 10 v) 55 7 (nI q)) 55 10 w) := by
        intro w hw
        refine P_aload0 (pc' := 226) dX9_go_225 rfl ?_
        refine P_dup (pc' := 227) dX9_go_226 rfl rfl ?_
        refine P_geti (pc' := 230) dX9_go_227 rfl fl_X9_183 rfl (l_55 hsh) (t_55 hsh) ?_
        refine P_as (y := nI q) (by rw [u2_k (by decide), u2_s]) ?_
        refine P_iconst (pc' := 231) dX9_go_230 rfl (v := 1) rfl ?_
        refine P_iadd (pc' := 232) dX9_go_231 rfl ?_
        refine P_as (nI_1 q) ?_
        refine P_puti (pc' := 235) dX9_go_232 rfl fl_X9_183 rfl (l_55 hsh) (t_55 hsh) ?_
        refine P_goto (tgt := 170) dX9_go_235 rfl ?_
        rw [sw]
        refine ih (q + 1) w (by omega) (by omega) (fun v' hv => hQ v' (fun h4 => ?_))
        rw [hv h4, hw (by omega)]
        obtain ⟨i, hi⟩ : ∃ i, wrd b n 2 k (q + 1) - q = i + 1 := ⟨wrd b n 2 k (q + 1) - q - 1, by omega⟩
        rw [hi, nmb_s, show wrd b n 2 k (q + 1) - (q + 1) = i by omega]
      refine P_aload0 (pc' := 171) dX9_go_170 rfl ?_
      refine P_aload0 (pc' := 172) dX9_go_171 rfl ?_
      refine P_geti (pc' := 175) dX9_go_172 rfl fl_X9_183 rfl (l_55 hsh) (t_55 hsh) ?_
      refine P_as (u2_s _ _ _ _) ?_
      refine P_callV1 (pc' := 178) dX9_go_175 rfl lk_X9_201 (l_55 hsh) (t_55 hsh) (c_X9_isFigure (d := 0) (b := b) (n := n) (p := q) hsh (by rw [u2_k (by decide), u2_k (by decide)]; exact h6) hb.u.u hn (by omega)) (by omega) (Nat.le_of_ble_eq_true rfl) (fun r S' I' hq => ?_)
      obtain ⟨rfl, rfl, rfl⟩ := hq
      refine P_if_eq (tgt := 238) (pc' := 181) dX9_go_178 rfl rfl (fun h178 => ?_) (fun h178 => ?_)
      · exact absurd z0 (ifz.mp h178)
      · refine P_aload0 (pc' := 182) dX9_go_181 rfl ?_
        refine P_aload0 (pc' := 183) dX9_go_182 rfl ?_
        refine P_geti (pc' := 186) dX9_go_183 rfl fl_X9_183 rfl (l_55 hsh) (t_55 hsh) ?_
        refine P_as (u2_s _ _ _ _) ?_
        refine P_aload0 (pc' := 187) dX9_go_186 rfl ?_
        refine P_geti (pc' := 190) dX9_go_187 rfl fl_X9_186 rfl (l_55 hsh) (t_55 hsh) ?_
        refine P_as (y := nI p) (by rw [u2_k (by decide), u2_k (by decide)]; exact h8) ?_
        refine P_isub (pc' := 191) dX9_go_190 rfl ?_
        refine P_as es ?_
        refine P_iconst (pc' := 192) dX9_go_191 rfl (v := 4) rfl ?_
        refine P_icmp_ge (tgt := 218) (pc' := 195) dX9_go_192 rfl rfl (fun h192 => ?_) (fun h192 => ?_)
        · refine P_aload0 (pc' := 219) dX9_go_218 rfl ?_
          refine P_geti (pc' := 222) dX9_go_219 rfl fl_X9_198 rfl (l_55 hsh) (t_55 hsh) ?_
          refine P_puti (pc' := 225) dX9_go_222 rfl fl_X9_198 rfl (l_55 hsh) (t_55 hsh) ?_
          first
            | exact k225 _ (fun _ => rfl)
            | exact k225 _ (fun z => absurd (nI_lt (b := 4) z (by decide)) (Int32.not_lt.mpr h192))
        · refine P_bipush (pc' := 197) dX9_go_195 rfl (v := 10) rfl ?_
          refine P_aload0 (pc' := 198) dX9_go_197 rfl ?_
          refine P_geti (pc' := 201) dX9_go_198 rfl fl_X9_198 rfl (l_55 hsh) (t_55 hsh) ?_
          refine P_as (y := v) (by rw [u2_k (by decide), u2_s]) ?_
          refine P_imul (pc' := 202) dX9_go_201 rfl ?_
          refine P_aload0 (pc' := 203) dX9_go_202 rfl ?_
          refine P_getr (pc' := 206) dX9_go_203 rfl fl_X9_22 rfl (l_55 hsh) (t_55 hsh) (q_55_5 hsh) ?_
          refine P_aload0 (pc' := 207) dX9_go_206 rfl ?_
          refine P_geti (pc' := 210) dX9_go_207 rfl fl_X9_183 rfl (l_55 hsh) (t_55 hsh) ?_
          refine P_as (u2_s _ _ _ _) ?_
          refine P_iald (pc' := 211) dX9_go_210 rfl (l_60 hsh) (t_60 hsh) (j := q) rfl (by omega) (by decide) ?_
          refine P_as (y := b q) (by rw [u2_a (by decide), u2_a (by decide)]; exact eb) ?_
          refine P_iadd (pc' := 212) dX9_go_211 rfl ?_
          refine P_bipush (pc' := 214) dX9_go_212 rfl (v := 48) rfl ?_
          refine P_isub (pc' := 215) dX9_go_214 rfl ?_
          refine P_as (i_dig v (b q)) ?_
          refine P_goto (tgt := 222) dX9_go_215 rfl ?_
          refine P_puti (pc' := 225) dX9_go_222 rfl fl_X9_198 rfl (l_55 hsh) (t_55 hsh) ?_
          first
            | exact k225 _ (fun _ => rfl)
            | exact k225 _ (fun z => absurd (nI_lt (b := 4) z (by decide)) (Int32.not_lt.mpr h192))
    · rw [if_neg (fun z => z0 z.2)] at hQ
      refine P_aload0 (pc' := 171) dX9_go_170 rfl ?_
      refine P_aload0 (pc' := 172) dX9_go_171 rfl ?_
      refine P_geti (pc' := 175) dX9_go_172 rfl fl_X9_183 rfl (l_55 hsh) (t_55 hsh) ?_
      refine P_as (u2_s _ _ _ _) ?_
      refine P_callV1 (pc' := 178) dX9_go_175 rfl lk_X9_201 (l_55 hsh) (t_55 hsh) (c_X9_isFigure (d := 0) (b := b) (n := n) (p := q) hsh (by rw [u2_k (by decide), u2_k (by decide)]; exact h6) hb.u.u hn (by omega)) (by omega) (Nat.le_of_ble_eq_true rfl) (fun r S' I' hq => ?_)
      obtain ⟨rfl, rfl, rfl⟩ := hq
      refine P_if_eq (tgt := 238) (pc' := 181) dX9_go_178 rfl rfl (fun h178 => ?_) (fun h178 => ?_)
      · exact hQ v (fun _ => by rw [Nat.sub_self]; rfl)
      · exact absurd (ifz.mpr z0) h178

