/-- behind a call on the street at o -/
def Pst (o : Nat) (S : Shp) (I : Mem) (al : Int32 → Int32 → Int32 → Int32) (A : Nat → Int32) (J : Mem) : Prop := aC o J = A ∧ AlOk S J al ∧ ∀ x, ¬ Scr x → (x < o ∨ o + 6 < x) → J x = I x
theorem StO.le {o : Nat} (h : StO o) : 1 ≤ o ∧ o ≤ 15 := by rcases h with rfl | rfl | rfl <;> decide
theorem not_scr {x : Nat} (h : x < 28) : ¬ Scr x := by unfold Scr; omega
theorem Pst.self {o : Nat} {S : Shp} {I : Mem} {al : Int32 → Int32 → Int32 → Int32} (h : AlOk S I al) : Pst o S I al (aC o I) I := ⟨rfl, h, fun _ _ _ => rfl⟩
theorem Pst.tr {o : Nat} {S : Shp} {I J K : Mem} {al : Int32 → Int32 → Int32 → Int32} {A B : Nat → Int32} (h1 : Pst o S I al A J) (h2 : Pst o S J al B K) : Pst o S I al B K :=
  ⟨h2.1, h2.2.1, fun x a b => (h2.2.2 x a b).trans (h1.2.2 x a b)⟩
/-- a store into the street's own cells -/
theorem Pst.put {o : Nat} {S : Shp} {I : Mem} {al : Int32 → Int32 → Int32 → Int32} (ho : StO o) (h : AlOk S I al) {x k : Nat} {v : Int32} (h1 : o ≤ x) (h2 : x ≤ o + 6) {B : Nat → Int32} (e : aC o (u2 I x k v) = B) : Pst o S I al B (u2 I x k v) := by
  have := ho.le
  exact ⟨e, h.mv (u2_row (by omega)) (fun y hy _ => u2_row (by omega)), fun y _ hy => u2_row (by omega)⟩
theorem Pst.scr {o : Nat} {S : Shp} {I J : Mem} {al : Int32 → Int32 → Int32 → Int32} (ho : StO o) (h : AlOk S J al) (hk : ∀ x, ¬ Scr x → J x = I x) : Pst o S I al (aC o I) J := by
  have := ho.le
  exact ⟨aC_out (fun x h1 h2 => hk x (not_scr (by omega))), h, fun x hx _ => hk x hx⟩
theorem c_X5_giftTo {G : GX} {S : Shp} {I : Mem} {d o b c g n : Nat} {m : Int32} {al : Int32 → Int32 → Int32 → Int32} (hsh : SHP S) (ho : StO o) (hal : AlOk S I al) (hw : WA (aC o I) n) (hb : b < 9) (c1 : 1 ≤ c) (c9 : c ≤ 9) (g9 : g ≤ 9) (hd : 3 ≤ d) : PM G yX5_giftTo cX5_giftTo 6 (some .int) d 0 0 [.ref o, .int (nI b), .int (nI c), .int m, .int (nI g), .ref 27] S I (fun r S' I' => r = some (.int (aGift al (aC o I) b c m g)) ∧ S = S' ∧ Pst o S I al (aC o I) I') := by
  refine PM.of (ls := [some (.ref o), some (.int (nI b)), some (.int (nI c)), some (.int m), some (.int (nI g)), some (.ref 27)]) (by decide) rfl (Nat.le_of_ble_eq_true rfl) rfl ?_
  show PW G RX5 "giftTo" _ _ _ _ _ _ _ _ _ _ _ _
  obtain ⟨w1, w2, w3, w4, w5⟩ := id hw
  obtain ⟨k1, -, s, s20, hs⟩ := w5 b hb
  have hso := ho.le
  refine P_aload0 (pc' := 1) dX5_giftTo_0 rfl ?_
  refine P_getr (pc' := 4) dX5_giftTo_1 rfl fl_X5_15 rfl (so_l0 hsh ho) (so_t0 hsh ho) (so_p1 hsh ho) ?_
  refine P_iload1 (pc' := 5) dX5_giftTo_4 rfl ?_
  refine P_iald (pc' := 6) dX5_giftTo_5 rfl (so_l2 hsh ho) (so_t2 hsh ho) (j := b) rfl hb (by decide) ?_
  refine P_aload5 (pc' := 8) dX5_giftTo_6 rfl ?_
  refine P_iload2 (pc' := 9) dX5_giftTo_8 rfl ?_
  refine P_iload4 (pc' := 11) dX5_giftTo_9 rfl ?_
  refine P_aload0 (pc' := 12) dX5_giftTo_11 rfl ?_
  refine P_getr (pc' := 15) dX5_giftTo_12 rfl fl_X5_21 rfl (so_l0 hsh ho) (so_t0 hsh ho) (so_p3 hsh ho) ?_
  refine P_iload1 (pc' := 16) dX5_giftTo_15 rfl ?_
  refine P_iald (pc' := 17) dX5_giftTo_16 rfl (so_l4 hsh ho) (so_t4 hsh ho) (j := b) rfl hb (by decide) ?_
  refine P_as (y := nI s) (by rw [aC_rs I hb, hs]) ?_
  refine P_callV3 (pc' := 20) dX5_giftTo_17 rfl lk_X5_106 (l_27 hsh) (t_27 hsh) (c_X0_asBeggar (d := 2) hsh hal c1 c9 g9 s20 (by omega)) (by omega) (Nat.le_of_ble_eq_true rfl) (fun r S' I' hq => ?_)
  obtain ⟨rfl, rfl, hal2, hk2⟩ := hq
  refine P_iload3 (pc' := 21) dX5_giftTo_20 rfl ?_
  refine P_iload4 (pc' := 23) dX5_giftTo_21 rfl ?_
  refine P_aload0 (pc' := 24) dX5_giftTo_23 rfl ?_
  refine P_geti (pc' := 27) dX5_giftTo_24 rfl fl_X5_37 rfl (so_l0 hsh ho) (so_t0 hsh ho) ?_
  refine P_callS5 (pc' := 30) dX5_giftTo_27 rfl lk_X5_112 (c_X1_gift (d := 1) _ _ _ _ _ (by rw [aC_rk I hb]; exact k1) (by omega)) (by omega) (Nat.le_of_ble_eq_true rfl) (fun r S' I' hq => ?_)
  obtain ⟨rfl, rfl, rfl⟩ := hq
  refine P_iret dX5_giftTo_30 ?_
  refine ⟨?_, rfl, Pst.scr ho hal2 hk2⟩
  rw [hk2 o (not_scr (by omega)), aC_rk I hb, ← hs]
  rfl
theorem g_m3 {g : Nat} (h : g ≤ 9) : (if nI g - 3 < 0 then (0 : Int32) else nI g - 3) = nI (g - 3) := by
  have key : ∀ g, g ≤ 9 → (if nI g - 3 < 0 then (0 : Int32) else nI g - 3) = nI (g - 3) := by decide +kernel
  exact key g h
/-- a passer at one corner: all beggars by their numbers -/
theorem lp_X5_walk_in {G : GX} {S : Shp} {I0 : Mem} {d o f t c n i : Nat} {m co sp pn : Int32} {al : Int32 → Int32 → Int32 → Int32} {Q : Option Value → Shp → Mem → Prop} (hsh : SHP S) (ho : StO o) (c1 : 1 ≤ c) (c9 : c ≤ 9) (hn : n ≤ 9) (hd : 4 ≤ d) : ∀ (k b : Nat) (g : Nat) (I : Mem) (o12 : Option Value), b + k = n → g ≤ 9 → AlOk S I al → WA (aC o I) n → Pst o S I0 al (aC o I) I →
    (∀ (g' : Nat) (J : Mem) (x12 : Option Value), g' ≤ 9 → AlOk S J al → WA (aC o J) n → (g', aC o J) = aIn al c m co k b (g, aC o I) → Pst o S I0 al (aC o J) J → PW G RX5 "walk" cX5_walk 13 none d 0 0 Q 132 [some (.ref o), some (.int (nI f)), some (.int (nI t)), some (.int (nI c)), some (.int m), some (.ref 27), some (.int (nI g')), some (.int sp), some (.int pn), some (.int (nI i)), some (.int co), some (.int (nI n)), x12] [] S J) →
    PW G RX5 "walk" cX5_walk 13 none d 0 0 Q 48 [some (.ref o), some (.int (nI f)), some (.int (nI t)), some (.int (nI c)), some (.int m), some (.ref 27), some (.int (nI g)), some (.int sp), some (.int pn), some (.int (nI i)), some (.int co), some (.int (nI b)), o12] [] S I := by
  have hso := ho.le
  intro k
  induction k with
  | zero =>
    intro b g I o12 hb g9 hal hw hp hQ
    have e1 : I o 6 = nI n := hw.1
    have hb : b = n := by omega
    subst hb
    refine P_iload11 (pc' := 50) dX5_walk_48 rfl ?_
    refine P_aload0 (pc' := 51) dX5_walk_50 rfl ?_
    refine P_geti (pc' := 54) dX5_walk_51 rfl fl_X5_30 rfl (so_l0 hsh ho) (so_t0 hsh ho) ?_
    refine P_icmp_ge (tgt := 132) (pc' := 57) dX5_walk_54 rfl rfl (fun h54 => ?_) (fun h54 => ?_)
    · exact hQ g I _ g9 hal hw rfl hp
    · exact absurd (by rw [e1]; exact Int32.le_refl _) h54
  | succ k ih =>
    intro b g I o12 hb g9 hal hw hp hQ
    have e1 : I o 6 = nI n := hw.1
    have b9 : b < 9 := by omega
    have go : ∀ (g' : Nat) (J : Mem) (x12 : Option Value), g' ≤ 9 → AlOk S J al → (g', aC o J) = aStep al c m co b (g, aC o I) → Pst o S I0 al (aC o J) J → PW G RX5 "walk" cX5_walk 13 none d 0 0 Q 48 [some (.ref o), some (.int (nI f)), some (.int (nI t)), some (.int (nI c)), some (.int m), some (.ref 27), some (.int (nI g')), some (.int sp), some (.int pn), some (.int (nI i)), some (.int co), some (.int (nI (b + 1))), x12] [] S J := by
      intro g' J x12 h9 hJ he hpJ
      have hwJ : WA (aC o J) n := by
        have := aStep_wa (al := al) (c := c) (m := m) (co := co) (b := b) (q := (g, aC o I)) hw
        rw [← he] at this
        exact this
      refine ih (b + 1) g' J x12 (by omega) h9 hJ hwJ hpJ (fun g2 K x a1 a2 a3 a4 a5 => hQ g2 K x a1 a2 a3 ?_ a5)
      rw [a4, he]
      rfl
    have eb : nI b + 1 = nI (b + 1) := nI_1 b
    refine P_iload11 (pc' := 50) dX5_walk_48 rfl ?_
    refine P_aload0 (pc' := 51) dX5_walk_50 rfl ?_
    refine P_geti (pc' := 54) dX5_walk_51 rfl fl_X5_30 rfl (so_l0 hsh ho) (so_t0 hsh ho) ?_
    refine P_icmp_ge (tgt := 132) (pc' := 57) dX5_walk_54 rfl rfl (fun h54 => ?_) (fun h54 => ?_)
    · exact absurd (by rw [e1] at h54; exact h54) (nI_ge (by omega) (by omega))
    · refine P_aload0 (pc' := 58) dX5_walk_57 rfl ?_
      refine P_getr (pc' := 61) dX5_walk_58 rfl fl_X5_18 rfl (so_l0 hsh ho) (so_t0 hsh ho) (so_p2 hsh ho) ?_
      refine P_iload11 (pc' := 63) dX5_walk_61 rfl ?_
      refine P_iald (pc' := 64) dX5_walk_63 rfl (so_l3 hsh ho) (so_t3 hsh ho) (j := b) rfl b9 (by decide) ?_
      refine P_iload10 (pc' := 66) dX5_walk_64 rfl ?_
      refine P_icmp_ne (tgt := 85) (pc' := 69) dX5_walk_66 rfl rfl (fun h66 => ?_) (fun h66 => ?_)
      · refine P_iconst (pc' := 86) dX5_walk_85 rfl (v := 0) rfl ?_
        refine P_istore12 (pc' := 88) dX5_walk_86 rfl (by decide) rfl ?_
        refine P_iload12 (pc' := 90) dX5_walk_88 rfl ?_
        refine P_if_le (tgt := 126) (pc' := 93) dX5_walk_90 rfl rfl (fun h90 => ?_) (fun h90 => absurd (by decide) h90)
        refine P_iinc11 (pc' := 129) dX5_walk_126 rfl eb (by decide) rfl ?_
        refine P_goto (tgt := 48) dX5_walk_129 rfl ?_
        exact go g _ _ g9 hal (by rw [aStep_no (by rw [← aC_rc I b9]; exact h66)]) hp
      · refine P_aload0 (pc' := 70) dX5_walk_69 rfl ?_
        refine P_iload11 (pc' := 72) dX5_walk_70 rfl ?_
        refine P_iload3 (pc' := 73) dX5_walk_72 rfl ?_
        refine P_iload4 (pc' := 75) dX5_walk_73 rfl ?_
        refine P_iload6 (pc' := 77) dX5_walk_75 rfl ?_
        refine P_aload5 (pc' := 79) dX5_walk_77 rfl ?_
        refine P_callV5 (pc' := 82) dX5_walk_79 rfl lk_X5_99 (so_l0 hsh ho) (so_t0 hsh ho) (c_X5_giftTo (d := 3) hsh ho hal hw b9 c1 c9 g9 (by omega)) (by omega) (Nat.le_of_ble_eq_true rfl) (fun r S' I' hq => ?_)
        obtain ⟨rfl, rfl, hp2⟩ := hq
        refine P_goto (tgt := 86) dX5_walk_82 rfl ?_
        refine P_istore12 (pc' := 88) dX5_walk_86 rfl (by decide) rfl ?_
        refine P_iload12 (pc' := 90) dX5_walk_88 rfl ?_
        refine P_if_le (tgt := 126) (pc' := 93) dX5_walk_90 rfl rfl (fun h90 => ?_) (fun h90 => ?_)
        · refine P_iinc11 (pc' := 129) dX5_walk_126 rfl eb (by decide) rfl ?_
          refine P_goto (tgt := 48) dX5_walk_129 rfl ?_
          exact go g _ _ g9 hp2.2.1 (by rw [aStep_no2 (by rw [← aC_rc I b9]; exact h66) h90, hp2.1]) (by rw [hp2.1]; exact hp.tr hp2)
        · refine P_aload0 (pc' := 94) dX5_walk_93 rfl ?_
          refine P_getr (pc' := 97) dX5_walk_94 rfl fl_X5_24 rfl (so_l0 hsh ho) (so_t0 hsh ho) (so_p4 hsh ho) ?_
          refine P_iload11 (pc' := 99) dX5_walk_97 rfl ?_
          refine P_dup2 (pc' := 100) dX5_walk_99 rfl rfl rfl ?_
          refine P_iald (pc' := 101) dX5_walk_100 rfl (so_l5 hsh ho) (so_t5 hsh ho) (j := b) rfl b9 (by decide) ?_
          refine P_iload12 (pc' := 103) dX5_walk_101 rfl ?_
          refine P_iadd (pc' := 104) dX5_walk_103 rfl ?_
          refine P_iast (pc' := 105) dX5_walk_104 rfl (so_l5 hsh ho) (so_t5 hsh ho) (j := b) rfl b9 (by decide) ?_
          refine P_aload0 (pc' := 106) dX5_walk_105 rfl ?_
          refine P_getr (pc' := 109) dX5_walk_106 rfl fl_X5_27 rfl (so_l0 hsh ho) (so_t0 hsh ho) (so_p5 hsh ho) ?_
          refine P_iload11 (pc' := 111) dX5_walk_109 rfl ?_
          refine P_dup2 (pc' := 112) dX5_walk_111 rfl rfl rfl ?_
          refine P_iald (pc' := 113) dX5_walk_112 rfl (so_l6 hsh ho) (so_t6 hsh ho) (j := b) rfl b9 (by decide) ?_
          refine P_iconst (pc' := 114) dX5_walk_113 rfl (v := 1) rfl ?_
          refine P_iadd (pc' := 115) dX5_walk_114 rfl ?_
          refine P_iast (pc' := 116) dX5_walk_115 rfl (so_l6 hsh ho) (so_t6 hsh ho) (j := b) rfl b9 (by decide) ?_
          refine P_iload6 (pc' := 118) dX5_walk_116 rfl ?_
          refine P_iconst (pc' := 119) dX5_walk_118 rfl (v := 3) rfl ?_
          refine P_isub (pc' := 120) dX5_walk_119 rfl ?_
          refine P_iconst (pc' := 121) dX5_walk_120 rfl (v := 0) rfl ?_
          refine P_max (pc' := 124) dX5_walk_121 rfl lk_X5_103 (by omega) (Nat.le_of_ble_eq_true rfl) ?_
          refine P_as (y := nI (g - 3)) (g_m3 g9) ?_
          refine P_istore6 (pc' := 126) dX5_walk_124 rfl (by decide) rfl ?_
          refine P_iinc11 (pc' := 129) dX5_walk_126 rfl eb (by decide) rfl ?_
          refine P_goto (tgt := 48) dX5_walk_129 rfl ?_
          have eP : ∀ J : Mem, Pst o S I al (aC o I) J → Pst o S I0 al (upd (upd (aC o J) (19 + 5 * b) (J (o + 5) b + aGift al (aC o I) b c m g)) (20 + 5 * b) (u2 J (o + 5) b (J (o + 5) b + aGift al (aC o I) b c m g) (o + 6) b + 1)) (u2 (u2 J (o + 5) b (J (o + 5) b + aGift al (aC o I) b c m g)) (o + 6) b (u2 J (o + 5) b (J (o + 5) b + aGift al (aC o I) b c m g) (o + 6) b + 1)) := by
            intro J hJ
            have p1 := Pst.put (S := S) ho hJ.2.1 (x := o + 5) (k := b) (v := J (o + 5) b + aGift al (aC o I) b c m g) (by omega) (by omega) (aC_wp b9 _)
            have p2 := Pst.put (S := S) ho p1.2.1 (x := o + 6) (k := b) (v := u2 J (o + 5) b (J (o + 5) b + aGift al (aC o I) b c m g) (o + 6) b + 1) (by omega) (by omega) (aC_wh b9 _)
            rw [aC_wp b9] at p2
            exact ((hp.tr hJ).tr p1).tr p2
          have p3 := eP _ hp2
          refine go (g - 3) _ _ (by omega) p3.2.1 ?_ (by rw [p3.1]; exact p3)
          rw [p3.1]
          rw [aStep_yes (by rw [← aC_rc I b9]; exact h66) h90, u2_row (by omega), aC_rp (o := o) I' b9, aC_rh (o := o) I' b9, hp2.1]
theorem pth_c {f t i : Nat} (hf : f ≤ 7) (ht : t ≤ 7) (hi : i < pn f t) : nI f + nI i * (if f ≤ t then 1 else -1) = pth f t i := by
  unfold pth
  unfold pn at hi
  by_cases h : f ≤ t
  · rw [if_pos h] at hi ⊢
    rw [if_pos h, Int32.mul_one, nI_add]
  · rw [if_neg h] at hi ⊢
    rw [if_neg h, Int32.mul_neg, Int32.mul_one, ← Int32.sub_eq_add_neg, pk_sub (by omega)]
theorem lp_X5_walk_out {G : GX} {S : Shp} {I0 : Mem} {d o f t c n : Nat} {m : Int32} {al : Int32 → Int32 → Int32 → Int32} {Q : Option Value → Shp → Mem → Prop} (hsh : SHP S) (ho : StO o) (f7 : f ≤ 7) (t7 : t ≤ 7) (c1 : 1 ≤ c) (c9 : c ≤ 9) (hn : n ≤ 9) (hd : 4 ≤ d) : ∀ (k i : Nat) (g : Nat) (I : Mem) (x10 x11 x12 : Option Value), i + k = pn f t → g ≤ 9 → AlOk S I al → WA (aC o I) n → Pst o S I0 al (aC o I) I →
    (∀ (J : Mem), AlOk S J al → aC o J = (aOut al c m n (pth f t) k i (g, aC o I)).2 → Pst o S I0 al (aC o J) J → Q none S J) →
    PW G RX5 "walk" cX5_walk 13 none d 0 0 Q 29 [some (.ref o), some (.int (nI f)), some (.int (nI t)), some (.int (nI c)), some (.int m), some (.ref 27), some (.int (nI g)), some (.int (if f ≤ t then 1 else -1)), some (.int (nI (pn f t))), some (.int (nI i)), x10, x11, x12] [] S I := by
  have hso := ho.le
  have hpn : pn f t ≤ 8 := by unfold pn; split <;> omega
  intro k
  induction k with
  | zero =>
    intro i g I x10 x11 x12 hi g9 hal hw hp hQ
    refine P_iload9 (pc' := 31) dX5_walk_29 rfl ?_
    refine P_iload8 (pc' := 33) dX5_walk_31 rfl ?_
    refine P_icmp_ge (tgt := 138) (pc' := 36) dX5_walk_33 rfl rfl (fun h33 => ?_) (fun h33 => ?_)
    · refine P_vret dX5_walk_138 ?_
      exact hQ I hal rfl hp
    · exact absurd (nI_le (by omega) (by omega)) h33
  | succ k ih =>
    intro i g I x10 x11 x12 hi g9 hal hw hp hQ
    have ei : nI i + 1 = nI (i + 1) := nI_1 i
    have e10 : nI f + nI i * (if f ≤ t then 1 else -1) = pth f t i := pth_c f7 t7 (by omega)
    refine P_iload9 (pc' := 31) dX5_walk_29 rfl ?_
    refine P_iload8 (pc' := 33) dX5_walk_31 rfl ?_
    refine P_icmp_ge (tgt := 138) (pc' := 36) dX5_walk_33 rfl rfl (fun h33 => ?_) (fun h33 => ?_)
    · exact absurd h33 (nI_ge (by omega) (by omega))
    · refine P_iload1 (pc' := 37) dX5_walk_36 rfl ?_
      refine P_iload9 (pc' := 39) dX5_walk_37 rfl ?_
      refine P_iload7 (pc' := 41) dX5_walk_39 rfl ?_
      refine P_imul (pc' := 42) dX5_walk_41 rfl ?_
      refine P_iadd (pc' := 43) dX5_walk_42 rfl ?_
      refine P_as (y := pth f t i) e10 ?_
      refine P_istore10 (pc' := 45) dX5_walk_43 rfl (by decide) rfl ?_
      refine P_iconst (pc' := 46) dX5_walk_45 rfl (v := 0) rfl ?_
      refine P_istore11 (pc' := 48) dX5_walk_46 rfl (by decide) rfl ?_
      refine lp_X5_walk_in hsh ho c1 c9 hn hd n 0 g I _ (by omega) g9 hal hw hp (fun g' J x12 a1 a2 a3 a4 a5 => ?_)
      refine P_iinc9 (pc' := 135) dX5_walk_132 rfl ei (by decide) rfl ?_
      refine P_goto (tgt := 29) dX5_walk_135 rfl ?_
      refine ih (i + 1) g' J _ _ _ (by omega) a1 a2 a3 a5 (fun K b1 b2 b3 => hQ K b1 ?_ b3)
      rw [b2, a4]
      rfl
theorem abs_d {f t : Nat} (hf : f ≤ 7) (ht : t ≤ 7) : (if (0 : Int32) ≤ nI t - nI f then nI t - nI f else 0 - (nI t - nI f)) + 1 = nI (pn f t) := by
  have key : ∀ f, f ≤ 7 → ∀ t, t ≤ 7 → (if (0 : Int32) ≤ nI t - nI f then nI t - nI f else 0 - (nI t - nI f)) + 1 = nI (pn f t) := by decide +kernel
  exact key f hf t ht
theorem c_X5_walk {G : GX} {S : Shp} {I : Mem} {d o f t c n : Nat} {m : Int32} {al : Int32 → Int32 → Int32 → Int32} (hsh : SHP S) (ho : StO o) (hal : AlOk S I al) (hw : WA (aC o I) n) (f7 : f ≤ 7) (t7 : t ≤ 7) (c1 : 1 ≤ c) (c9 : c ≤ 9) (hd : 4 ≤ d) : PM G yX5_walk cX5_walk 13 none d 0 0 [.ref o, .int (nI f), .int (nI t), .int (nI c), .int m, .ref 27] S I (fun r S' I' => r = none ∧ S = S' ∧ Pst o S I al (aWalk al f t c m n (aC o I)) I') := by
  refine PM.of (ls := [some (.ref o), some (.int (nI f)), some (.int (nI t)), some (.int (nI c)), some (.int m), some (.ref 27), none, none, none, none, none, none, none]) (by decide) rfl (Nat.le_of_ble_eq_true rfl) rfl ?_
  show PW G RX5 "walk" _ _ _ _ _ _ _ _ _ _ _ _
  have key : PW G RX5 "walk" cX5_walk 13 none d 0 0 (fun r S' I' => r = none ∧ S = S' ∧ Pst o S I al (aWalk al f t c m n (aC o I)) I') 14 [some (.ref o), some (.int (nI f)), some (.int (nI t)), some (.int (nI c)), some (.int m), some (.ref 27), some (.int (nI 9)), none, none, none, none, none, none] [.int (if f ≤ t then 1 else -1)] S I := by
    refine P_istore7 (pc' := 16) dX5_walk_14 rfl (by decide) rfl ?_
    refine P_iload2 (pc' := 17) dX5_walk_16 rfl ?_
    refine P_iload1 (pc' := 18) dX5_walk_17 rfl ?_
    refine P_isub (pc' := 19) dX5_walk_18 rfl ?_
    refine P_abs (pc' := 22) dX5_walk_19 rfl lk_X5_72 (by omega) (Nat.le_of_ble_eq_true rfl) ?_
    refine P_iconst (pc' := 23) dX5_walk_22 rfl (v := 1) rfl ?_
    refine P_iadd (pc' := 24) dX5_walk_23 rfl ?_
    refine P_as (y := nI (pn f t)) (abs_d f7 t7) ?_
    refine P_istore8 (pc' := 26) dX5_walk_24 rfl (by decide) rfl ?_
    refine P_iconst (pc' := 27) dX5_walk_26 rfl (v := 0) rfl ?_
    refine P_istore9 (pc' := 29) dX5_walk_27 rfl (by decide) rfl ?_
    exact lp_X5_walk_out (I0 := I) hsh ho f7 t7 c1 c9 hw.2.1 hd (pn f t) 0 9 I _ _ _ (by omega) (by decide) hal hw (Pst.self hal) (fun J b1 b2 b3 => ⟨rfl, rfl, by rw [b2] at b3; exact b3⟩)
  refine P_bipush (pc' := 2) dX5_walk_0 rfl (v := 9) rfl ?_
  refine P_istore6 (pc' := 4) dX5_walk_2 rfl (by decide) rfl ?_
  refine P_iload1 (pc' := 5) dX5_walk_4 rfl ?_
  refine P_iload2 (pc' := 6) dX5_walk_5 rfl ?_
  refine P_icmp_gt (tgt := 13) (pc' := 9) dX5_walk_6 rfl rfl (fun h6 => ?_) (fun h6 => ?_)
  · refine P_iconst (pc' := 14) dX5_walk_13 rfl (v := (-1)) rfl ?_
    first | (rw [if_pos ((nI_leI (by omega) (by omega)).mp (Int32.not_lt.mp h6))] at key; exact key) | (rw [if_neg (Nat.not_le.mpr ((nI_ltI (by omega) (by omega)).mp h6))] at key; exact key)
  · refine P_iconst (pc' := 10) dX5_walk_9 rfl (v := 1) rfl ?_
    refine P_goto (tgt := 14) dX5_walk_10 rfl ?_
    first | (rw [if_pos ((nI_leI (by omega) (by omega)).mp (Int32.not_lt.mp h6))] at key; exact key) | (rw [if_neg (Nat.not_le.mpr ((nI_ltI (by omega) (by omega)).mp h6))] at key; exact key)

