def GoP (b : Nat → Int32) (n : Nat) (x : Lx) (S : Shp) (I : Mem) : Option Value → Shp → Mem → Prop := fun r S' J => r = none ∧ S = S' ∧ GoR b n x J ∧ FrG I J
theorem g117 {G : GX} {S : Shp} {I M : Mem} {b : Nat → Int32} {d n p e : Nat} {A : Prop} [Decidable A] {c : Int32} (hsh : SHP S) (hn : n ≤ 96) (hc : c = if A then 1 else 0) (m6 : M 55 6 = nI n) (m8 : M 55 8 = nI p) (mb : BT b M) (mf : FrG I M) (pn : p < n) (w1 : p ≤ e) (w2 : e ≤ n) : PW G RX9 "go" cX9_go 2 none d 0 0 (GoP b n (if A then 4 else 1, p, e) S I) 117 [some (.ref 55), some (.int c)] [] S (u2 M 55 7 (nI e)) := by
  have fr : ∀ {k : Nat} {v : Int32} {J : Mem}, FrG I J → 7 ≤ k → k ≤ 11 → FrG I (u2 J 55 k v) := fun hf h1 h2 => ⟨fun y hy => by rw [u2_row hy]; exact hf.1 y hy, fun k hk => by rw [u2_k (by omega)]; exact hf.2 k hk⟩
  subst hc
  by_cases q : A
  · rw [if_pos q, if_pos q]
    refine P_aload0 (pc' := 118) dX9_go_117 rfl ?_
    refine P_iload1 (pc' := 119) dX9_go_118 rfl ?_
    refine P_if_eq (tgt := 126) (pc' := 122) dX9_go_119 rfl rfl (fun h119 => ?_) (fun h119 => ?_)
    · exact absurd h119 (by decide)
    · refine P_iconst (pc' := 123) dX9_go_122 rfl (v := 4) rfl ?_
      refine P_goto (tgt := 127) dX9_go_123 rfl ?_
      refine P_puti (pc' := 130) dX9_go_127 rfl fl_X9_192 rfl (l_55 hsh) (t_55 hsh) ?_
      refine P_aload0 (pc' := 131) dX9_go_130 rfl ?_
      refine P_aload0 (pc' := 132) dX9_go_131 rfl ?_
      refine P_getr (pc' := 135) dX9_go_132 rfl fl_X9_22 rfl (l_55 hsh) (t_55 hsh) (q_55_5 hsh) ?_
      refine P_aload0 (pc' := 136) dX9_go_135 rfl ?_
      refine P_geti (pc' := 139) dX9_go_136 rfl fl_X9_186 rfl (l_55 hsh) (t_55 hsh) ?_
      refine P_as (y := nI p) (by rw [u2_k (by decide), u2_k (by decide)]; exact m8) ?_
      refine P_iald (pc' := 140) dX9_go_139 rfl (l_60 hsh) (t_60 hsh) (j := p) rfl (by omega) (by decide) ?_
      refine P_puti (pc' := 143) dX9_go_140 rfl fl_X9_198 rfl (l_55 hsh) (t_55 hsh) ?_
      refine P_aload0 (pc' := 144) dX9_go_143 rfl ?_
      refine P_aload0 (pc' := 145) dX9_go_144 rfl ?_
      refine P_geti (pc' := 148) dX9_go_145 rfl fl_X9_183 rfl (l_55 hsh) (t_55 hsh) ?_
      refine P_as (y := nI e) (by rw [u2_k (by decide), u2_k (by decide), u2_s]) ?_
      refine P_puti (pc' := 151) dX9_go_148 rfl fl_X9_189 rfl (l_55 hsh) (t_55 hsh) ?_
      refine P_goto (tgt := 303) dX9_go_151 rfl ?_
      refine P_vret dX9_go_303 ?_
      refine ⟨rfl, rfl, ⟨⟨⟨?_, mb.u.u.u.u⟩, ?_, fun _ => u2_s _ _ _ _, fun z => absurd z (by show ¬ (4 : Nat) = 3; omega)⟩, ?_, ?_, fun z => absurd z (by show ¬ ((4 : Nat) = 1 ∨ (4 : Nat) = 3); omega), fun z => absurd z (by show ¬ (4 : Nat) = 2; omega)⟩, fr (fr (fr (fr mf (by decide) (by decide)) (by decide) (by decide)) (by decide) (by decide)) (by decide) (by decide)⟩
      · rw [u2_k (by decide), u2_k (by decide), u2_k (by decide), u2_k (by decide)]; exact m6
      · rw [u2_k (by decide), u2_k (by decide), u2_k (by decide), u2_s]
      · rw [u2_k (by decide), u2_k (by decide), u2_k (by decide), u2_k (by decide)]; exact m8
      · rw [u2_k (by decide), u2_k (by decide), u2_s]; rfl
  · rw [if_neg q, if_neg q]
    refine P_aload0 (pc' := 118) dX9_go_117 rfl ?_
    refine P_iload1 (pc' := 119) dX9_go_118 rfl ?_
    refine P_if_eq (tgt := 126) (pc' := 122) dX9_go_119 rfl rfl (fun h119 => ?_) (fun h119 => ?_)
    · refine P_iconst (pc' := 127) dX9_go_126 rfl (v := 1) rfl ?_
      refine P_puti (pc' := 130) dX9_go_127 rfl fl_X9_192 rfl (l_55 hsh) (t_55 hsh) ?_
      refine P_aload0 (pc' := 131) dX9_go_130 rfl ?_
      refine P_aload0 (pc' := 132) dX9_go_131 rfl ?_
      refine P_getr (pc' := 135) dX9_go_132 rfl fl_X9_22 rfl (l_55 hsh) (t_55 hsh) (q_55_5 hsh) ?_
      refine P_aload0 (pc' := 136) dX9_go_135 rfl ?_
      refine P_geti (pc' := 139) dX9_go_136 rfl fl_X9_186 rfl (l_55 hsh) (t_55 hsh) ?_
      refine P_as (y := nI p) (by rw [u2_k (by decide), u2_k (by decide)]; exact m8) ?_
      refine P_iald (pc' := 140) dX9_go_139 rfl (l_60 hsh) (t_60 hsh) (j := p) rfl (by omega) (by decide) ?_
      refine P_puti (pc' := 143) dX9_go_140 rfl fl_X9_198 rfl (l_55 hsh) (t_55 hsh) ?_
      refine P_aload0 (pc' := 144) dX9_go_143 rfl ?_
      refine P_aload0 (pc' := 145) dX9_go_144 rfl ?_
      refine P_geti (pc' := 148) dX9_go_145 rfl fl_X9_183 rfl (l_55 hsh) (t_55 hsh) ?_
      refine P_as (y := nI e) (by rw [u2_k (by decide), u2_k (by decide), u2_s]) ?_
      refine P_puti (pc' := 151) dX9_go_148 rfl fl_X9_189 rfl (l_55 hsh) (t_55 hsh) ?_
      refine P_goto (tgt := 303) dX9_go_151 rfl ?_
      refine P_vret dX9_go_303 ?_
      refine ⟨rfl, rfl, ⟨⟨⟨?_, mb.u.u.u.u⟩, ?_, fun _ => u2_s _ _ _ _, fun z => absurd z (by show ¬ (1 : Nat) = 3; omega)⟩, ?_, ?_, fun _ => ?_, fun z => absurd z (by show ¬ (1 : Nat) = 2; omega)⟩, fr (fr (fr (fr mf (by decide) (by decide)) (by decide) (by decide)) (by decide) (by decide)) (by decide) (by decide)⟩
      · rw [u2_k (by decide), u2_k (by decide), u2_k (by decide), u2_k (by decide)]; exact m6
      · rw [u2_k (by decide), u2_k (by decide), u2_k (by decide), u2_s]
      · rw [u2_k (by decide), u2_k (by decide), u2_k (by decide), u2_k (by decide)]; exact m8
      · rw [u2_k (by decide), u2_k (by decide), u2_s]; rfl
      · rw [u2_k (by decide), u2_s, u2_a (by decide), u2_a (by decide), u2_a (by decide), u2_a (by decide), u2_a (by decide), u2_a (by decide)]
    · exact absurd rfl h119
theorem g238 {G : GX} {S : Shp} {I M : Mem} {b : Nat → Int32} {d n p e : Nat} {A : Prop} [Decidable A] {c v : Int32} (hsh : SHP S) (hn : n ≤ 96) (hc : c = if A then 1 else 0) (m6 : M 55 6 = nI n) (m8 : M 55 8 = nI p) (mb : BT b M) (mf : FrG I M) (w1 : p ≤ e) (w2 : e ≤ n) (hv : e - p ≤ 4 → v = nmb b (e - p) p 0) : PW G RX9 "go" cX9_go 2 none d 0 0 (GoP b n (if A then 4 else 2, p, e) S I) 238 [some (.ref 55), some (.int c)] [] S (u2 (u2 M 55 10 v) 55 7 (nI e)) := by
  have fr : ∀ {k : Nat} {v : Int32} {J : Mem}, FrG I J → 7 ≤ k → k ≤ 11 → FrG I (u2 J 55 k v) := fun hf h1 h2 => ⟨fun y hy => by rw [u2_row hy]; exact hf.1 y hy, fun k hk => by rw [u2_k (by omega)]; exact hf.2 k hk⟩
  have es : nI e - nI p = nI (e - p) := pk_sub (by omega)
  have k261 : ∀ (c : Int32) (y : Nat) (z : Nat), (z = 4 ∨ z = 2) → y = tk (z, p, e) → PW G RX9 "go" cX9_go 2 none d 0 0 (GoP b n (z, p, e) S I) 261 [some (.ref 55), some (.int c)] [.int (nI y), .ref 55] S (u2 (u2 M 55 10 v) 55 7 (nI e)) := by
    intro c y z hz hy
    refine P_puti (pc' := 264) dX9_go_261 rfl fl_X9_192 rfl (l_55 hsh) (t_55 hsh) ?_
    refine P_aload0 (pc' := 265) dX9_go_264 rfl ?_
    refine P_aload0 (pc' := 266) dX9_go_265 rfl ?_
    refine P_geti (pc' := 269) dX9_go_266 rfl fl_X9_183 rfl (l_55 hsh) (t_55 hsh) ?_
    refine P_as (y := nI e) (by rw [u2_k (by decide), u2_s]) ?_
    refine P_puti (pc' := 272) dX9_go_269 rfl fl_X9_189 rfl (l_55 hsh) (t_55 hsh) ?_
    refine P_goto (tgt := 303) dX9_go_272 rfl ?_
    refine P_vret dX9_go_303 ?_
    refine ⟨rfl, rfl, ⟨⟨⟨?_, mb.u.u.u.u⟩, ?_, fun _ => u2_s _ _ _ _, fun q => absurd q (by show ¬ z = 3; omega)⟩, ?_, ?_, fun q => absurd q (by show ¬ (z = 1 ∨ z = 3); omega), fun _ h4 => ?_⟩, fr (fr (fr (fr mf (by decide) (by decide)) (by decide) (by decide)) (by decide) (by decide)) (by decide) (by decide)⟩
    · rw [u2_k (by decide), u2_k (by decide), u2_k (by decide), u2_k (by decide)]; exact m6
    · rw [u2_k (by decide), u2_k (by decide), u2_s]
    · rw [u2_k (by decide), u2_k (by decide), u2_k (by decide), u2_k (by decide)]; exact m8
    · rw [u2_k (by decide), u2_s, hy]
    · rw [u2_k (by decide), u2_k (by decide), u2_k (by decide), u2_s]; exact hv h4
  subst hc
  by_cases q : A
  · rw [if_pos q, if_pos q]
    refine P_aload0 (pc' := 239) dX9_go_238 rfl ?_
    refine P_iload1 (pc' := 240) dX9_go_239 rfl ?_
    refine P_if_ne (tgt := 256) (pc' := 243) dX9_go_240 rfl rfl (fun h240 => ?_) (fun h240 => ?_)
    · refine P_iconst (pc' := 257) dX9_go_256 rfl (v := 4) rfl ?_
      refine P_goto (tgt := 261) dX9_go_257 rfl ?_
      exact k261 _ 4 4 (Or.inl rfl) rfl
    · exact absurd h240 (by decide)
  · rw [if_neg q, if_neg q]
    refine P_aload0 (pc' := 239) dX9_go_238 rfl ?_
    refine P_iload1 (pc' := 240) dX9_go_239 rfl ?_
    refine P_if_ne (tgt := 256) (pc' := 243) dX9_go_240 rfl rfl (fun h240 => ?_) (fun h240 => ?_)
    · exact absurd rfl h240
    · refine P_aload0 (pc' := 244) dX9_go_243 rfl ?_
      refine P_geti (pc' := 247) dX9_go_244 rfl fl_X9_183 rfl (l_55 hsh) (t_55 hsh) ?_
      refine P_as (u2_s _ _ _ _) ?_
      refine P_aload0 (pc' := 248) dX9_go_247 rfl ?_
      refine P_geti (pc' := 251) dX9_go_248 rfl fl_X9_186 rfl (l_55 hsh) (t_55 hsh) ?_
      refine P_as (y := nI p) (by rw [u2_k (by decide), u2_k (by decide)]; exact m8) ?_
      refine P_isub (pc' := 252) dX9_go_251 rfl ?_
      refine P_as es ?_
      refine P_iconst (pc' := 253) dX9_go_252 rfl (v := 4) rfl ?_
      refine P_icmp_le (tgt := 260) (pc' := 256) dX9_go_253 rfl rfl (fun h253 => ?_) (fun h253 => ?_)
      · refine P_iconst (pc' := 261) dX9_go_260 rfl (v := 2) rfl ?_
        first
          | (have h4 : e - p ≤ 4 := Classical.byContradiction (fun z => Int32.not_lt.mpr h253 (nI_lt (a := 4) (by omega) (by omega)))
             exact k261 _ 2 2 (Or.inr rfl) (if_neg (fun z => Nat.not_lt.mpr h4 z.2)).symm)
          | (have h4 : ¬ e - p ≤ 4 := fun z => h253 (nI_le (b := 4) z (by decide))
             exact k261 _ 4 2 (Or.inr rfl) (if_pos ⟨rfl, Nat.not_le.mp h4⟩).symm)
      · refine P_iconst (pc' := 257) dX9_go_256 rfl (v := 4) rfl ?_
        refine P_goto (tgt := 261) dX9_go_257 rfl ?_
        first
          | (have h4 : e - p ≤ 4 := Classical.byContradiction (fun z => Int32.not_lt.mpr h253 (nI_lt (a := 4) (by omega) (by omega)))
             exact k261 _ 2 2 (Or.inr rfl) (if_neg (fun z => Nat.not_lt.mpr h4 z.2)).symm)
          | (have h4 : ¬ e - p ≤ 4 := fun z => h253 (nI_le (b := 4) z (by decide))
             exact k261 _ 4 2 (Or.inr rfl) (if_pos ⟨rfl, Nat.not_le.mp h4⟩).symm)
theorem c_X9_go {G : GX} {S : Shp} {I : Mem} {b : Nat → Int32} {d n : Nat} {x : Lx} (hsh : SHP S) (hn : n ≤ 96) (hx : x.2.2 ≤ n) (h13 : x.1 = 1 ∨ x.1 = 2 ∨ x.1 = 3) (h : GoI b n x I) (hd : 1 ≤ d) : PM G yX9_go cX9_go 2 none d 0 0 [.ref 55] S I (GoP b n (advL b n x) S I) := by
  obtain ⟨⟨h6, hb⟩, h7, hE1, hE3⟩ := h
  obtain ⟨s1, s2⟩ := skp_b (b := b) (n := n) (n - x.2.2) x.2.2 hx
  unfold advL
  generalize hp : skp b n (n - x.2.2) x.2.2 = p at s1 s2
  have hcl : (nI p = I 55 11) ↔ ((x.1 = 1 ∨ x.1 = 2) ∧ p = x.2.2) := by
    constructor
    · intro z
      have q : x.1 = 1 ∨ x.1 = 2 := by
        rcases h13 with q | q | q
        · exact Or.inl q
        · exact Or.inr q
        · exact absurd z.symm (hE3 q p s1 s2)
      rw [hE1 q] at z
      exact ⟨q, (nI_eq (by omega) (by omega)).mp z⟩
    · rintro ⟨q, e⟩
      rw [hE1 q, e]
  refine PM.of (ls := [some (.ref 55), none]) (by decide) rfl (Nat.le_of_ble_eq_true rfl) rfl ?_
  show PW G RX9 "go" _ _ _ _ _ _ _ _ _ _ _ _
  refine P_asM (I' := u2 I 55 7 (nI x.2.2)) (by rw [← h7, u2_id]) ?_
  refine lp_go1 hsh h6 hb hn (n - x.2.2) x.2.2 (by omega) ?_
  rw [hp]
  have k63 : ∀ (M : Mem) (c : Int32), c = (if (x.1 = 1 ∨ x.1 = 2) ∧ p = x.2.2 then 1 else 0) → M = u2 (u2 I 55 7 (nI p)) 55 8 (nI p) → PW G RX9 "go" cX9_go 2 none d 0 0 (GoP b n (lxS b n x.1 x.2.2 p) S I) 63 [some (.ref 55), some (.int c)] [] S M := by
    intro M c hc hM
    have m6 : M 55 6 = nI n := by rw [hM, u2_k (by decide), u2_k (by decide)]; exact h6
    have m7 : M 55 7 = nI p := by rw [hM, u2_k (by decide), u2_s]
    have m8 : M 55 8 = nI p := by rw [hM, u2_s]
    have m11 : M 55 11 = I 55 11 := by rw [hM, u2_k (by decide), u2_k (by decide)]
    have mb : BT b M := by rw [hM]; exact hb.u.u
    have m60 : M 60 = I 60 := by rw [hM, u2_row (by decide), u2_row (by decide)]
    have mf : FrG I M := by
      rw [hM]
      exact ⟨fun y hy => by rw [u2_row hy, u2_row hy], fun k hk => by rw [u2_k (by omega), u2_k (by omega)]⟩
    clear hM
    have fr : ∀ {k : Nat} {v : Int32} {J : Mem}, FrG I J → 7 ≤ k → k ≤ 11 → FrG I (u2 J 55 k v) := fun hf h1 h2 => ⟨fun y hy => by rw [u2_row hy]; exact hf.1 y hy, fun k hk => by rw [u2_k (by omega)]; exact hf.2 k hk⟩
    have s3 := sAt_le b n p
    have s0 := @sAt_0 b n p
    have cases4 : sAt b n p = 0 ∨ sAt b n p = 1 ∨ sAt b n p = 2 ∨ sAt b n p = 3 := by omega
    unfold lxS
    rcases cases4 with q | q | q | q
    · rw [if_neg (by omega), if_pos q]
      have pn : p = n := by have := s0.mp q; omega
      refine P_aload0 (pc' := 64) dX9_go_63 rfl ?_
      refine P_geti (pc' := 67) dX9_go_64 rfl fl_X9_186 rfl (l_55 hsh) (t_55 hsh) ?_
      refine P_as m8 ?_
      refine P_aload0 (pc' := 68) dX9_go_67 rfl ?_
      refine P_geti (pc' := 71) dX9_go_68 rfl fl_X9_179 rfl (l_55 hsh) (t_55 hsh) ?_
      refine P_as m6 ?_
      refine P_icmp_ne (tgt := 82) (pc' := 74) dX9_go_71 rfl rfl (fun h71 => ?_) (fun h71 => ?_)
      · exact absurd (by rw [pn]) h71
      · refine P_aload0 (pc' := 75) dX9_go_74 rfl ?_
        refine P_iconst (pc' := 76) dX9_go_75 rfl (v := 0) rfl ?_
        refine P_puti (pc' := 79) dX9_go_76 rfl fl_X9_192 rfl (l_55 hsh) (t_55 hsh) ?_
        refine P_goto (tgt := 303) dX9_go_79 rfl ?_
        refine P_vret dX9_go_303 ?_
        refine ⟨rfl, rfl, ⟨⟨⟨?_, mb.u⟩, ?_, fun z => absurd z (by show ¬ ((0 : Nat) = 1 ∨ (0 : Nat) = 2); omega), fun z => absurd z (by show ¬ (0 : Nat) = 3; omega)⟩, ?_, u2_s _ _ _ _, fun z => absurd z (by show ¬ ((0 : Nat) = 1 ∨ (0 : Nat) = 3); omega), fun z => absurd z (by show ¬ (0 : Nat) = 2; omega)⟩, fr mf (by decide) (by decide)⟩
        · rw [u2_k (by decide)]; exact m6
        · rw [u2_k (by decide)]; exact m7
        · rw [u2_k (by decide)]; exact m8
    · have pn : p < n := by
        rcases Nat.lt_or_ge p n with z | z
        · exact z
        · have := s0.mpr z; omega
      rw [if_neg (by omega), if_neg (by omega), q]
      obtain ⟨w1, w2, -⟩ := wrd_b (b := b) (n := n) (s := 1) (n - p) p (by omega)
      refine P_aload0 (pc' := 64) dX9_go_63 rfl ?_
      refine P_geti (pc' := 67) dX9_go_64 rfl fl_X9_186 rfl (l_55 hsh) (t_55 hsh) ?_
      refine P_as m8 ?_
      refine P_aload0 (pc' := 68) dX9_go_67 rfl ?_
      refine P_geti (pc' := 71) dX9_go_68 rfl fl_X9_179 rfl (l_55 hsh) (t_55 hsh) ?_
      refine P_as m6 ?_
      refine P_icmp_ne (tgt := 82) (pc' := 74) dX9_go_71 rfl rfl (fun h71 => ?_) (fun h71 => ?_)
      · refine P_aload0 (pc' := 83) dX9_go_82 rfl ?_
        refine P_aload0 (pc' := 84) dX9_go_83 rfl ?_
        refine P_geti (pc' := 87) dX9_go_84 rfl fl_X9_186 rfl (l_55 hsh) (t_55 hsh) ?_
        refine P_as m8 ?_
        refine P_callV1 (pc' := 90) dX9_go_87 rfl lk_X9_195 (l_55 hsh) (t_55 hsh) (c_X9_isLetter (d := 0) (b := b) (n := n) (p := p) hsh m6 mb hn (by omega)) (by omega) (Nat.le_of_ble_eq_true rfl) (fun r S' I' hq => ?_)
        obtain ⟨rfl, rfl, rfl⟩ := hq
        refine P_if_eq (tgt := 154) (pc' := 93) dX9_go_90 rfl rfl (fun h90 => ?_) (fun h90 => ?_)
        · exact absurd q (ifz.mp h90)
        · refine P_asM (I' := u2 M 55 7 (nI p)) (by rw [← m7, u2_id]) ?_
          refine lp_go2 hsh m6 mb hn hd (n - p) p (by omega) ?_
          generalize wrd b n 1 (n - p) p = e at w1 w2
          exact g117 hsh hn hc m6 m8 mb mf pn w1 w2
      · exact absurd ((nI_eq (by omega) (by omega)).mp h71) (by omega)
    · have pn : p < n := by
        rcases Nat.lt_or_ge p n with z | z
        · exact z
        · have := s0.mpr z; omega
      rw [if_neg (by omega), if_neg (by omega), q]
      obtain ⟨w1, w2, -⟩ := wrd_b (b := b) (n := n) (s := 2) (n - p) p (by omega)
      refine P_aload0 (pc' := 64) dX9_go_63 rfl ?_
      refine P_geti (pc' := 67) dX9_go_64 rfl fl_X9_186 rfl (l_55 hsh) (t_55 hsh) ?_
      refine P_as m8 ?_
      refine P_aload0 (pc' := 68) dX9_go_67 rfl ?_
      refine P_geti (pc' := 71) dX9_go_68 rfl fl_X9_179 rfl (l_55 hsh) (t_55 hsh) ?_
      refine P_as m6 ?_
      refine P_icmp_ne (tgt := 82) (pc' := 74) dX9_go_71 rfl rfl (fun h71 => ?_) (fun h71 => ?_)
      · refine P_aload0 (pc' := 83) dX9_go_82 rfl ?_
        refine P_aload0 (pc' := 84) dX9_go_83 rfl ?_
        refine P_geti (pc' := 87) dX9_go_84 rfl fl_X9_186 rfl (l_55 hsh) (t_55 hsh) ?_
        refine P_as m8 ?_
        refine P_callV1 (pc' := 90) dX9_go_87 rfl lk_X9_195 (l_55 hsh) (t_55 hsh) (c_X9_isLetter (d := 0) (b := b) (n := n) (p := p) hsh m6 mb hn (by omega)) (by omega) (Nat.le_of_ble_eq_true rfl) (fun r S' I' hq => ?_)
        obtain ⟨rfl, rfl, rfl⟩ := hq
        refine P_if_eq (tgt := 154) (pc' := 93) dX9_go_90 rfl rfl (fun h90 => ?_) (fun h90 => ?_)
        · refine P_aload0 (pc' := 155) dX9_go_154 rfl ?_
          refine P_aload0 (pc' := 156) dX9_go_155 rfl ?_
          refine P_geti (pc' := 159) dX9_go_156 rfl fl_X9_186 rfl (l_55 hsh) (t_55 hsh) ?_
          refine P_as m8 ?_
          refine P_callV1 (pc' := 162) dX9_go_159 rfl lk_X9_201 (l_55 hsh) (t_55 hsh) (c_X9_isFigure (d := 0) (b := b) (n := n) (p := p) hsh m6 mb hn (by omega)) (by omega) (Nat.le_of_ble_eq_true rfl) (fun r S' I' hq => ?_)
          obtain ⟨rfl, rfl, rfl⟩ := hq
          refine P_if_eq (tgt := 275) (pc' := 165) dX9_go_162 rfl rfl (fun h162 => ?_) (fun h162 => ?_)
          · exact absurd q (ifz.mp h162)
          · refine P_aload0 (pc' := 166) dX9_go_165 rfl ?_
            refine P_iconst (pc' := 167) dX9_go_166 rfl (v := 0) rfl ?_
            refine P_puti (pc' := 170) dX9_go_167 rfl fl_X9_198 rfl (l_55 hsh) (t_55 hsh) ?_
            refine P_asM (I' := u2 (u2 M 55 10 0) 55 7 (nI p)) (by
              have z : (u2 M 55 10 0) 55 7 = nI p := by rw [u2_k (by decide)]; exact m7
              rw [← z, u2_id]) ?_
            refine lp_go3 (p := p) hsh m6 m8 mb hn hd (n - p) p 0 (by omega) (Nat.le_refl _) (fun v hv => ?_)
            generalize wrd b n 2 (n - p) p = e at w1 w2 hv
            exact g238 hsh hn hc m6 m8 mb mf w1 w2 hv
        · exact absurd (ifz.mpr (by omega)) h90
      · exact absurd ((nI_eq (by omega) (by omega)).mp h71) (by omega)
    · have pn : p < n := by
        rcases Nat.lt_or_ge p n with z | z
        · exact z
        · have := s0.mpr z; omega
      rw [if_pos q]
      refine P_aload0 (pc' := 64) dX9_go_63 rfl ?_
      refine P_geti (pc' := 67) dX9_go_64 rfl fl_X9_186 rfl (l_55 hsh) (t_55 hsh) ?_
      refine P_as m8 ?_
      refine P_aload0 (pc' := 68) dX9_go_67 rfl ?_
      refine P_geti (pc' := 71) dX9_go_68 rfl fl_X9_179 rfl (l_55 hsh) (t_55 hsh) ?_
      refine P_as m6 ?_
      refine P_icmp_ne (tgt := 82) (pc' := 74) dX9_go_71 rfl rfl (fun h71 => ?_) (fun h71 => ?_)
      · refine P_aload0 (pc' := 83) dX9_go_82 rfl ?_
        refine P_aload0 (pc' := 84) dX9_go_83 rfl ?_
        refine P_geti (pc' := 87) dX9_go_84 rfl fl_X9_186 rfl (l_55 hsh) (t_55 hsh) ?_
        refine P_as m8 ?_
        refine P_callV1 (pc' := 90) dX9_go_87 rfl lk_X9_195 (l_55 hsh) (t_55 hsh) (c_X9_isLetter (d := 0) (b := b) (n := n) (p := p) hsh m6 mb hn (by omega)) (by omega) (Nat.le_of_ble_eq_true rfl) (fun r S' I' hq => ?_)
        obtain ⟨rfl, rfl, rfl⟩ := hq
        refine P_if_eq (tgt := 154) (pc' := 93) dX9_go_90 rfl rfl (fun h90 => ?_) (fun h90 => ?_)
        · refine P_aload0 (pc' := 155) dX9_go_154 rfl ?_
          refine P_aload0 (pc' := 156) dX9_go_155 rfl ?_
          refine P_geti (pc' := 159) dX9_go_156 rfl fl_X9_186 rfl (l_55 hsh) (t_55 hsh) ?_
          refine P_as m8 ?_
          refine P_callV1 (pc' := 162) dX9_go_159 rfl lk_X9_201 (l_55 hsh) (t_55 hsh) (c_X9_isFigure (d := 0) (b := b) (n := n) (p := p) hsh m6 mb hn (by omega)) (by omega) (Nat.le_of_ble_eq_true rfl) (fun r S' I' hq => ?_)
          obtain ⟨rfl, rfl, rfl⟩ := hq
          refine P_if_eq (tgt := 275) (pc' := 165) dX9_go_162 rfl rfl (fun h162 => ?_) (fun h162 => ?_)
          · refine P_aload0 (pc' := 276) dX9_go_275 rfl ?_
            refine P_iconst (pc' := 277) dX9_go_276 rfl (v := 3) rfl ?_
            refine P_puti (pc' := 280) dX9_go_277 rfl fl_X9_192 rfl (l_55 hsh) (t_55 hsh) ?_
            refine P_aload0 (pc' := 281) dX9_go_280 rfl ?_
            refine P_aload0 (pc' := 282) dX9_go_281 rfl ?_
            refine P_getr (pc' := 285) dX9_go_282 rfl fl_X9_22 rfl (l_55 hsh) (t_55 hsh) (q_55_5 hsh) ?_
            refine P_aload0 (pc' := 286) dX9_go_285 rfl ?_
            refine P_geti (pc' := 289) dX9_go_286 rfl fl_X9_186 rfl (l_55 hsh) (t_55 hsh) ?_
            refine P_as (y := nI p) (by rw [u2_k (by decide)]; exact m8) ?_
            refine P_iald (pc' := 290) dX9_go_289 rfl (l_60 hsh) (t_60 hsh) (j := p) rfl (by omega) (by decide) ?_
            refine P_puti (pc' := 293) dX9_go_290 rfl fl_X9_198 rfl (l_55 hsh) (t_55 hsh) ?_
            refine P_aload0 (pc' := 294) dX9_go_293 rfl ?_
            refine P_dup (pc' := 295) dX9_go_294 rfl rfl ?_
            refine P_geti (pc' := 298) dX9_go_295 rfl fl_X9_183 rfl (l_55 hsh) (t_55 hsh) ?_
            refine P_as (y := nI p) (by rw [u2_k (by decide), u2_k (by decide)]; exact m7) ?_
            refine P_iconst (pc' := 299) dX9_go_298 rfl (v := 1) rfl ?_
            refine P_iadd (pc' := 300) dX9_go_299 rfl ?_
            refine P_as (nI_1 p) ?_
            refine P_puti (pc' := 303) dX9_go_300 rfl fl_X9_183 rfl (l_55 hsh) (t_55 hsh) ?_
            refine P_vret dX9_go_303 ?_
            refine ⟨rfl, rfl, ⟨⟨⟨?_, mb.u.u.u⟩, u2_s _ _ _ _, fun z => absurd z (by show ¬ ((3 : Nat) = 1 ∨ (3 : Nat) = 2); omega), fun _ p' z1 z2 => ?_⟩, ?_, ?_, fun _ => ?_, fun z => absurd z (by show ¬ (3 : Nat) = 2; omega)⟩, fr (fr (fr mf (by decide) (by decide)) (by decide) (by decide)) (by decide) (by decide)⟩
            · rw [u2_k (by decide), u2_k (by decide), u2_k (by decide)]; exact m6
            · have z1 : p + 1 ≤ p' := z1
              rw [u2_k (by decide), u2_k (by decide), u2_k (by decide), m11]
              rcases h13 with g | g | g
              · rw [hE1 (Or.inl g)]
                intro z
                have := (nI_eq (by omega) (by omega)).mp z
                omega
              · rw [hE1 (Or.inr g)]
                intro z
                have := (nI_eq (by omega) (by omega)).mp z
                omega
              · exact hE3 g p' (by omega) z2
            · rw [u2_k (by decide), u2_k (by decide), u2_k (by decide)]; exact m8
            · rw [u2_k (by decide), u2_k (by decide), u2_s]; rfl
            · rw [u2_k (by decide), u2_s, u2_a (by decide), u2_a (by decide), u2_a (by decide), u2_a (by decide)]
          · exact absurd (ifz.mpr (by omega)) h162
        · exact absurd (ifz.mpr (by omega)) h90
      · exact absurd ((nI_eq (by omega) (by omega)).mp h71) (by omega)
  refine P_aload0 (pc' := 39) dX9_go_38 rfl ?_
  refine P_aload0 (pc' := 40) dX9_go_39 rfl ?_
  refine P_geti (pc' := 43) dX9_go_40 rfl fl_X9_183 rfl (l_55 hsh) (t_55 hsh) ?_
  refine P_as (u2_s _ _ _ _) ?_
  refine P_puti (pc' := 46) dX9_go_43 rfl fl_X9_186 rfl (l_55 hsh) (t_55 hsh) ?_
  refine P_aload0 (pc' := 47) dX9_go_46 rfl ?_
  refine P_geti (pc' := 50) dX9_go_47 rfl fl_X9_186 rfl (l_55 hsh) (t_55 hsh) ?_
  refine P_as (u2_s _ _ _ _) ?_
  refine P_aload0 (pc' := 51) dX9_go_50 rfl ?_
  refine P_geti (pc' := 54) dX9_go_51 rfl fl_X9_189 rfl (l_55 hsh) (t_55 hsh) ?_
  refine P_as (y := I 55 11) (by rw [u2_k (by decide), u2_k (by decide)]) ?_
  refine P_icmp_ne (tgt := 61) (pc' := 57) dX9_go_54 rfl rfl (fun h54 => ?_) (fun h54 => ?_)
  · refine P_iconst (pc' := 62) dX9_go_61 rfl (v := 0) rfl ?_
    refine P_istore1 (pc' := 63) dX9_go_62 rfl (by decide) rfl ?_
    first
      | exact k63 _ _ (if_pos (hcl.mp h54)).symm rfl
      | exact k63 _ _ (if_neg (fun z => h54 (hcl.mpr z))).symm rfl
  · refine P_iconst (pc' := 58) dX9_go_57 rfl (v := 1) rfl ?_
    refine P_goto (tgt := 62) dX9_go_58 rfl ?_
    refine P_istore1 (pc' := 63) dX9_go_62 rfl (by decide) rfl ?_
    first
      | exact k63 _ _ (if_pos (hcl.mp h54)).symm rfl
      | exact k63 _ _ (if_neg (fun z => h54 (hcl.mpr z))).symm rfl

