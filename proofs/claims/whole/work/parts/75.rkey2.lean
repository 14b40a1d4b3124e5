def kA (w : Nat) : Nat := ([0, 4, 7, 11] : List Nat).getD w 0
theorem KY.at {J : Mem} (h : KY J) {w : Nat} (hw : w ≤ 2) : (J 62 w = nI (kA w) ∧ J 62 (w + 1) = nI (kA w + stL w)) ∧ kA w + stL w ≤ 11 ∧ ∀ k, k < stL w → J 61 (kA w + k) = stB w k ∧ 0 ≤ stB w k ∧ stB w k ≤ 127 := by
  have key : w = 0 ∨ w = 1 ∨ w = 2 := by omega
  have p1 : ∀ w, w < 3 → kA w + stL w ≤ 11 ∧ ([0, 4, 7, 11] : List Int32).getD w 0 = nI (kA w) ∧ ([0, 4, 7, 11] : List Int32).getD (w + 1) 0 = nI (kA w + stL w) ∧ ∀ k, k < 4 → k < stL w → ([97, 108, 109, 115, 102, 101, 101, 102, 105, 110, 101] : List Int32).getD (kA w + k) 0 = stB w k ∧ 0 ≤ stB w k ∧ stB w k ≤ 127 := by decide
  obtain ⟨a1, a2, a3, a4⟩ := p1 w (by omega)
  have h4 := stL_4 (i := w) (by omega)
  refine ⟨⟨by rw [h.2 w (by omega), a2], by rw [h.2 (w + 1) (by omega), a3]⟩, a1, fun k hk => ?_⟩
  obtain ⟨b1, b2, b3⟩ := a4 k (by omega) hk
  exact ⟨by rw [h.1 (kA w + k) (by omega), b1], b2, b3⟩
theorem hrV_01 (b : Nat → Int32) (p i : Nat) : ∀ (m j : Nat), hrV b p i m j = 0 ∨ hrV b p i m j = 1 := by
  intro m
  induction m with
  | zero => intro j; exact Or.inr rfl
  | succ m ih =>
    intro j
    rw [hrV_s]
    split
    · exact ih _
    · exact Or.inl rfl
theorem lp_X9_word {G : GX} {S : Shp} {I : Mem} {b : Nat → Int32} {d n p w : Nat} {Q : Option Value → Shp → Mem → Prop} (hsh : SHP S) (hky : KY I) (hb : BT b I) (h8 : I 55 8 = nI p) (hn : n ≤ 96) (hw : w ≤ 2) (hp : p + stL w ≤ n) : ∀ (m k : Nat) (s : Int32), (s = 0 ∨ s = 1) → k + m = stL w → (∀ x4, PW G RX9 "takesKey" cX9_takesKey 5 (some .boolean) d 0 0 Q 106 [some (.ref 55), some (.int (nI w)), some (.int (nI (stL w))), some (.int (if s = 0 then 0 else hrV b p w m k)), x4] [] S I) → PW G RX9 "takesKey" cX9_takesKey 5 (some .boolean) d 0 0 Q 55 [some (.ref 55), some (.int (nI w)), some (.int (nI (stL w))), some (.int s), some (.int (nI k))] [] S I := by
  obtain ⟨⟨y1, y2⟩, y3, y4⟩ := hky.at hw
  intro m
  induction m with
  | zero =>
    intro k s hs hk hQ
    have e : (if s = 0 then 0 else hrV b p w 0 k) = s := by
      rcases hs with rfl | rfl
      · rfl
      · rfl
    rw [e] at hQ
    refine P_iload4 (pc' := 57) dX9_takesKey_55 rfl ?_
    refine P_iload2 (pc' := 58) dX9_takesKey_57 rfl ?_
    refine P_icmp_ge (tgt := 106) (pc' := 61) dX9_takesKey_58 rfl rfl (fun h58 => ?_) (fun h58 => ?_)
    · exact hQ _
    · exact absurd (nI_le (by omega) (by omega)) h58
  | succ m ih =>
    intro k s hs hk hQ
    rcases hs with rfl | rfl
    · rw [if_pos rfl] at hQ
      refine P_iload4 (pc' := 57) dX9_takesKey_55 rfl ?_
      refine P_iload2 (pc' := 58) dX9_takesKey_57 rfl ?_
      refine P_icmp_ge (tgt := 106) (pc' := 61) dX9_takesKey_58 rfl rfl (fun h58 => ?_) (fun h58 => ?_)
      · exact absurd h58 (nI_ge (by omega) (by omega))
      · refine P_iload3 (pc' := 62) dX9_takesKey_61 rfl ?_
        refine P_if_eq (tgt := 106) (pc' := 65) dX9_takesKey_62 rfl rfl (fun h62 => ?_) (fun h62 => ?_)
        · exact hQ _
        · exact absurd rfl h62
    · rw [if_neg (by decide), hrV_s] at hQ
      obtain ⟨z1, z2, z3⟩ := y4 k (by omega)
      have key := (hb (p + k) (by omega)).eq z2 z3
      have k100 : ∀ s : Int32, (s = 0 ∨ s = 1) → (if s = 0 then 0 else hrV b p w m (k + 1)) = (if b (p + k) = stB w k then hrV b p w m (k + 1) else 0) → PW G RX9 "takesKey" cX9_takesKey 5 (some .boolean) d 0 0 Q 99 [some (.ref 55), some (.int (nI w)), some (.int (nI (stL w))), some (.int 1), some (.int (nI k))] [.int s] S I := by
        intro s hs e
        rw [← e] at hQ
        refine P_istore3 (pc' := 100) dX9_takesKey_99 rfl (by decide) rfl ?_
        refine P_iinc4 (pc' := 103) dX9_takesKey_100 rfl (nI_1 k) (by decide) rfl ?_
        refine P_goto (tgt := 55) dX9_takesKey_103 rfl ?_
        exact ih (k + 1) s hs (by omega) hQ
      refine P_iload4 (pc' := 57) dX9_takesKey_55 rfl ?_
      refine P_iload2 (pc' := 58) dX9_takesKey_57 rfl ?_
      refine P_icmp_ge (tgt := 106) (pc' := 61) dX9_takesKey_58 rfl rfl (fun h58 => ?_) (fun h58 => ?_)
      · exact absurd h58 (nI_ge (by omega) (by omega))
      · refine P_iload3 (pc' := 62) dX9_takesKey_61 rfl ?_
        refine P_if_eq (tgt := 106) (pc' := 65) dX9_takesKey_62 rfl rfl (fun h62 => ?_) (fun h62 => ?_)
        · exact absurd h62 (by decide)
        · refine P_aload0 (pc' := 66) dX9_takesKey_65 rfl ?_
          refine P_getr (pc' := 69) dX9_takesKey_66 rfl fl_X9_22 rfl (l_55 hsh) (t_55 hsh) (q_55_5 hsh) ?_
          refine P_aload0 (pc' := 70) dX9_takesKey_69 rfl ?_
          refine P_geti (pc' := 73) dX9_takesKey_70 rfl fl_X9_186 rfl (l_55 hsh) (t_55 hsh) ?_
          refine P_as h8 ?_
          refine P_iload4 (pc' := 75) dX9_takesKey_73 rfl ?_
          refine P_iadd (pc' := 76) dX9_takesKey_75 rfl ?_
          refine P_as (nI_add p k) ?_
          refine P_iald (pc' := 77) dX9_takesKey_76 rfl (l_60 hsh) (t_60 hsh) (j := p + k) rfl (by omega) (by decide) ?_
          refine P_aload0 (pc' := 78) dX9_takesKey_77 rfl ?_
          refine P_getr (pc' := 81) dX9_takesKey_78 rfl fl_X9_25 rfl (l_55 hsh) (t_55 hsh) (q_55_13 hsh) ?_
          refine P_aload0 (pc' := 82) dX9_takesKey_81 rfl ?_
          refine P_getr (pc' := 85) dX9_takesKey_82 rfl fl_X9_29 rfl (l_55 hsh) (t_55 hsh) (q_55_14 hsh) ?_
          refine P_iload1 (pc' := 86) dX9_takesKey_85 rfl ?_
          refine P_iald (pc' := 87) dX9_takesKey_86 rfl (l_62 hsh) (t_62 hsh) (j := w) rfl (by omega) (by decide) ?_
          refine P_as y1 ?_
          refine P_iload4 (pc' := 89) dX9_takesKey_87 rfl ?_
          refine P_iadd (pc' := 90) dX9_takesKey_89 rfl ?_
          refine P_as (nI_add (kA w) k) ?_
          refine P_cald (pc' := 91) dX9_takesKey_90 rfl (l_61 hsh) (t_61 hsh) (j := kA w + k) rfl (by omega) (by decide) ?_
          refine P_as z1 ?_
          refine P_icmp_ne (tgt := 98) (pc' := 94) dX9_takesKey_91 rfl rfl (fun h91 => ?_) (fun h91 => ?_)
          · refine P_iconst (pc' := 99) dX9_takesKey_98 rfl (v := 0) rfl ?_
            first
              | exact k100 1 (Or.inr rfl) (by rw [if_neg (by decide), if_pos (key.mp h91)])
              | exact k100 0 (Or.inl rfl) (by rw [if_pos rfl, if_neg (fun z => h91 (key.mpr z))])
          · refine P_iconst (pc' := 95) dX9_takesKey_94 rfl (v := 1) rfl ?_
            refine P_goto (tgt := 99) dX9_takesKey_95 rfl ?_
            first
              | exact k100 1 (Or.inr rfl) (by rw [if_neg (by decide), if_pos (key.mp h91)])
              | exact k100 0 (Or.inl rfl) (by rw [if_pos rfl, if_neg (fun z => h91 (key.mpr z))])
def FrK (I J : Mem) : Prop := (∀ y, y ≠ 55 → J y = I y) ∧ ∀ k, (k < 7 ∨ 12 < k) → J 55 k = I 55 k
def KyQ (b : Nat → Int32) (n : Nat) (x : Lx) (S : Shp) (I : Mem) (o : Option Nat) : Option Value → Shp → Mem → Prop := fun r S' J => S = S' ∧ match o with
  | none => r = some (.int 0) ∧ J = I
  | some key => r = some (.int 1) ∧ GoR b n (advL b n x) J ∧ J 55 12 = nI key ∧ FrK I J
theorem lp_X9_takesKey {G : GX} {S : Shp} {I : Mem} {b : Nat → Int32} {d n : Nat} {x : Lx} (hsh : SHP S) (hky : KY I) (hn : n ≤ 96) (hx : WOk b n x) (h1 : x.1 = 1) (h : GoR b n x I) (hd : 2 ≤ d) : ∀ (m w : Nat) (x2 x3 x4 : Option Value), w + m = 3 → PW G RX9 "takesKey" cX9_takesKey 5 (some .boolean) d 0 0 (KyQ b n x S I (kyF b x m w)) 12 [some (.ref 55), some (.int (nI w)), x2, x3, x4] [] S I := by
  have lt := hx.2.2.2.1 (Or.inl h1)
  have hx3 := hx.2.2.1
  obtain ⟨⟨⟨h6, hb⟩, h7, hE1, hE3⟩, h8, -⟩ := id h
  have es : nI x.2.2 - nI x.2.1 = nI (x.2.2 - x.2.1) := pk_sub (by omega)
  intro m
  induction m with
  | zero =>
    intro w x2 x3 x4 hw
    refine P_iload1 (pc' := 13) dX9_takesKey_12 rfl ?_
    refine P_iconst (pc' := 14) dX9_takesKey_13 rfl (v := 3) rfl ?_
    refine P_icmp_ge (tgt := 127) (pc' := 17) dX9_takesKey_14 rfl rfl (fun h14 => ?_) (fun h14 => ?_)
    · refine P_iconst (pc' := 128) dX9_takesKey_127 rfl (v := 0) rfl ?_
      refine P_zret dX9_takesKey_128 (by first | exact Or.inl rfl | exact Or.inr rfl) ?_
      exact ⟨rfl, rfl, rfl⟩
    · exact absurd (nI_le (a := 3) (by omega) (by omega)) h14
  | succ m ih =>
    intro w x2 x3 x4 hw
    rw [kyF_s]
    obtain ⟨⟨y1, y2⟩, y3, y4⟩ := hky.at (w := w) (by omega)
    have h4 := stL_4 (i := w) (by omega)
    have ek : nI (kA w + stL w) - nI (kA w) = nI (stL w) := by rw [pk_sub (by omega), show kA w + stL w - kA w = stL w by omega]
    have k106 : ∀ (s : Int32) (x4 : Option Value), wdV b x w = s → PW G RX9 "takesKey" cX9_takesKey 5 (some .boolean) d 0 0 (KyQ b n x S I (if wdV b x w = 0 then kyF b x m (w + 1) else some w)) 106 [some (.ref 55), some (.int (nI w)), some (.int (nI (stL w))), some (.int s), x4] [] S I := by
      intro s x4 hs
      subst hs
      refine P_iload3 (pc' := 107) dX9_takesKey_106 rfl ?_
      refine P_if_eq (tgt := 121) (pc' := 110) dX9_takesKey_107 rfl rfl (fun h107 => ?_) (fun h107 => ?_)
      · refine P_iinc1 (pc' := 124) dX9_takesKey_121 rfl (nI_1 w) (by decide) rfl ?_
        refine P_goto (tgt := 12) dX9_takesKey_124 rfl ?_
        rw [if_pos h107]
        exact ih (w + 1) _ _ _ (by omega)
      · refine P_aload0 (pc' := 111) dX9_takesKey_110 rfl ?_
        refine P_iload1 (pc' := 112) dX9_takesKey_111 rfl ?_
        refine P_puti (pc' := 115) dX9_takesKey_112 rfl fl_X9_204 rfl (l_55 hsh) (t_55 hsh) ?_
        refine P_aload0 (pc' := 116) dX9_takesKey_115 rfl ?_
        refine P_callV0 (pc' := 119) dX9_takesKey_116 rfl lk_X9_207 (l_55 hsh) (t_55 hsh) (c_X9_go (d := 1) (b := b) (n := n) (x := x) hsh hn hx3 (Or.inl h1) ⟨⟨by rw [u2_k (by decide)]; exact h6, hb.u⟩, by rw [u2_k (by decide)]; exact h7, fun z => by rw [u2_k (by decide)]; exact hE1 z, fun z => by rw [u2_k (by decide)]; exact hE3 z⟩ (by omega)) (by omega) (Nat.le_of_ble_eq_true rfl) (fun r S2 I2 hq => ?_)
        obtain ⟨rfl, rfl, hg, hf⟩ := hq
        refine P_iconst (pc' := 120) dX9_takesKey_119 rfl (v := 1) rfl ?_
        refine P_zret dX9_takesKey_120 (by first | exact Or.inl rfl | exact Or.inr rfl) ?_
        rw [if_neg h107]
        exact ⟨rfl, rfl, hg, by rw [hf.2 12 (by omega), u2_s], fun y hy => by rw [hf.1 y hy, u2_row hy], fun k hk => by rw [hf.2 k (by omega), u2_k (by omega)]⟩
    have k55 : wdV b x w = 0 → PW G RX9 "takesKey" cX9_takesKey 5 (some .boolean) d 0 0 (KyQ b n x S I (if wdV b x w = 0 then kyF b x m (w + 1) else some w)) 55 [some (.ref 55), some (.int (nI w)), some (.int (nI (stL w))), some (.int 0), some (.int 0)] [] S I := by
      intro ew
      refine P_iload4 (pc' := 57) dX9_takesKey_55 rfl ?_
      refine P_iload2 (pc' := 58) dX9_takesKey_57 rfl ?_
      refine P_icmp_ge (tgt := 106) (pc' := 61) dX9_takesKey_58 rfl rfl (fun h58 => ?_) (fun h58 => ?_)
      · exact k106 0 _ ew
      · refine P_iload3 (pc' := 62) dX9_takesKey_61 rfl ?_
        refine P_if_eq (tgt := 106) (pc' := 65) dX9_takesKey_62 rfl rfl (fun h62 => ?_) (fun h62 => ?_)
        · exact k106 0 _ ew
        · exact absurd rfl h62
    refine P_iload1 (pc' := 13) dX9_takesKey_12 rfl ?_
    refine P_iconst (pc' := 14) dX9_takesKey_13 rfl (v := 3) rfl ?_
    refine P_icmp_ge (tgt := 127) (pc' := 17) dX9_takesKey_14 rfl rfl (fun h14 => ?_) (fun h14 => ?_)
    · exact absurd h14 (nI_ge (b := 3) (by omega) (by decide))
    · refine P_aload0 (pc' := 18) dX9_takesKey_17 rfl ?_
      refine P_getr (pc' := 21) dX9_takesKey_18 rfl fl_X9_29 rfl (l_55 hsh) (t_55 hsh) (q_55_14 hsh) ?_
      refine P_iload1 (pc' := 22) dX9_takesKey_21 rfl ?_
      refine P_iconst (pc' := 23) dX9_takesKey_22 rfl (v := 1) rfl ?_
      refine P_iadd (pc' := 24) dX9_takesKey_23 rfl ?_
      refine P_as (nI_1 w) ?_
      refine P_iald (pc' := 25) dX9_takesKey_24 rfl (l_62 hsh) (t_62 hsh) (j := w + 1) rfl (by omega) (by decide) ?_
      refine P_as y2 ?_
      refine P_aload0 (pc' := 26) dX9_takesKey_25 rfl ?_
      refine P_getr (pc' := 29) dX9_takesKey_26 rfl fl_X9_29 rfl (l_55 hsh) (t_55 hsh) (q_55_14 hsh) ?_
      refine P_iload1 (pc' := 30) dX9_takesKey_29 rfl ?_
      refine P_iald (pc' := 31) dX9_takesKey_30 rfl (l_62 hsh) (t_62 hsh) (j := w) rfl (by omega) (by decide) ?_
      refine P_as y1 ?_
      refine P_isub (pc' := 32) dX9_takesKey_31 rfl ?_
      refine P_as ek ?_
      refine P_istore2 (pc' := 33) dX9_takesKey_32 rfl (by decide) rfl ?_
      refine P_iload2 (pc' := 34) dX9_takesKey_33 rfl ?_
      refine P_aload0 (pc' := 35) dX9_takesKey_34 rfl ?_
      refine P_geti (pc' := 38) dX9_takesKey_35 rfl fl_X9_183 rfl (l_55 hsh) (t_55 hsh) ?_
      refine P_as h7 ?_
      refine P_aload0 (pc' := 39) dX9_takesKey_38 rfl ?_
      refine P_geti (pc' := 42) dX9_takesKey_39 rfl fl_X9_186 rfl (l_55 hsh) (t_55 hsh) ?_
      refine P_as h8 ?_
      refine P_isub (pc' := 43) dX9_takesKey_42 rfl ?_
      refine P_as es ?_
      refine P_icmp_ne (tgt := 50) (pc' := 46) dX9_takesKey_43 rfl rfl (fun h43 => ?_) (fun h43 => ?_)
      · refine P_iconst (pc' := 51) dX9_takesKey_50 rfl (v := 0) rfl ?_
        refine P_istore3 (pc' := 52) dX9_takesKey_51 rfl (by decide) rfl ?_
        refine P_iconst (pc' := 53) dX9_takesKey_52 rfl (v := 0) rfl ?_
        refine P_istore4 (pc' := 55) dX9_takesKey_53 rfl (by decide) rfl ?_
        first
          | (have q : stL w = x.2.2 - x.2.1 := (nI_eq (by omega) (by omega)).mp h43
             refine lp_X9_word hsh hky hb h8 hn (by omega) (by omega) (stL w) 0 1 (Or.inr rfl) (by omega) (fun x4 => ?_)
             rw [if_neg (show ¬ (1 : Int32) = 0 by decide)]
             exact k106 _ _ (by unfold wdV; rw [if_pos q.symm]))
          | (have q : ¬ stL w = x.2.2 - x.2.1 := fun z => h43 (by rw [z])
             have ew : wdV b x w = 0 := by unfold wdV; rw [if_neg (fun z => q z.symm)]
             exact k55 ew)
      · refine P_iconst (pc' := 47) dX9_takesKey_46 rfl (v := 1) rfl ?_
        refine P_goto (tgt := 51) dX9_takesKey_47 rfl ?_
        refine P_istore3 (pc' := 52) dX9_takesKey_51 rfl (by decide) rfl ?_
        refine P_iconst (pc' := 53) dX9_takesKey_52 rfl (v := 0) rfl ?_
        refine P_istore4 (pc' := 55) dX9_takesKey_53 rfl (by decide) rfl ?_
        first
          | (have q : stL w = x.2.2 - x.2.1 := (nI_eq (by omega) (by omega)).mp h43
             refine lp_X9_word hsh hky hb h8 hn (by omega) (by omega) (stL w) 0 1 (Or.inr rfl) (by omega) (fun x4 => ?_)
             rw [if_neg (show ¬ (1 : Int32) = 0 by decide)]
             exact k106 _ _ (by unfold wdV; rw [if_pos q.symm]))
          | (have q : ¬ stL w = x.2.2 - x.2.1 := fun z => h43 (by rw [z])
             have ew : wdV b x w = 0 := by unfold wdV; rw [if_neg (fun z => q z.symm)]
             exact k55 ew)
theorem tk_1 {x : Lx} : tk x = 1 ↔ x.1 = 1 := by
  unfold tk
  split
  · rename_i z; exact ⟨fun q => absurd q (by decide), fun q => by omega⟩
  · exact Iff.rfl
theorem tk_4 {x : Lx} (h : x.1 ≤ 4) : tk x ≤ 4 := by
  unfold tk
  split <;> omega
theorem c_X9_takesKey {G : GX} {S : Shp} {I : Mem} {b : Nat → Int32} {d n : Nat} {x : Lx} (hsh : SHP S) (hky : KY I) (hn : n ≤ 96) (hx : WOk b n x) (h : GoR b n x I) (hd : 2 ≤ d) : PM G yX9_takesKey cX9_takesKey 5 (some .boolean) d 0 0 [.ref 55] S I (KyQ b n x S I (kyO b x)) := by
  have h9 := h.2.2.1
  have w4 := tk_4 hx.1
  unfold kyO
  refine PM.of (ls := [some (.ref 55), none, none, none, none]) (by decide) rfl (Nat.le_of_ble_eq_true rfl) rfl ?_
  show PW G RX9 "takesKey" _ _ _ _ _ _ _ _ _ _ _ _
  refine P_aload0 (pc' := 1) dX9_takesKey_0 rfl ?_
  refine P_geti (pc' := 4) dX9_takesKey_1 rfl fl_X9_192 rfl (l_55 hsh) (t_55 hsh) ?_
  refine P_as h9 ?_
  refine P_iconst (pc' := 5) dX9_takesKey_4 rfl (v := 1) rfl ?_
  refine P_icmp_eq (tgt := 10) (pc' := 8) dX9_takesKey_5 rfl rfl (fun h5 => ?_) (fun h5 => ?_)
  · refine P_iconst (pc' := 11) dX9_takesKey_10 rfl (v := 0) rfl ?_
    refine P_istore1 (pc' := 12) dX9_takesKey_11 rfl (by decide) rfl ?_
    have q := tk_1.mp ((nI_eq (b := 1) (by omega) (by decide)).mp h5)
    rw [if_pos q]
    exact lp_X9_takesKey hsh hky hn hx q h hd 3 0 _ _ _ (by omega)
  · refine P_iconst (pc' := 9) dX9_takesKey_8 rfl (v := 0) rfl ?_
    refine P_zret dX9_takesKey_9 (by first | exact Or.inl rfl | exact Or.inr rfl) ?_
    rw [if_neg (fun z => h5 (by rw [tk_1.mpr z]; rfl))]
    exact ⟨rfl, rfl, rfl⟩

