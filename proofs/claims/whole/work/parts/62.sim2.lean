theorem mst_op {key n a : Nat} {b : Nat → Int32} {x : Lx} {C Z : List Int32} {td : List Bool} {k : Int32} (h3 : x.1 = 3) (h41 : b x.2.1 ≠ 41) (hs : sgO (b x.2.1) = some k) (ht : ¬ (rk k = 3 ∧ td.headD false = true)) : mst key b n (x, C, Z, false, td, a) = .inl (advL b n x, (stl (rk k) Z C).2, k :: (stl (rk k) Z C).1, true, (if rk k = 3 then true else if 3 < rk k then td.headD false else false) :: td.tail, a) := by
  unfold mst
  dsimp only
  rw [if_neg (by decide), if_neg (by rw [h3]; decide), if_neg (fun q => h41 q.1.2), show sgH b x = some k by unfold sgH; rw [if_pos h3]; exact hs]
  dsimp only
  rw [if_neg ht]
theorem mst_cl {key n a : Nat} {b : Nat → Int32} {x : Lx} {C Z : List Int32} {td : List Bool} (h3 : x.1 = 3) (h41 : b x.2.1 = 41) (hc : 0 < cnt (-11) Z) : mst key b n (x, C, Z, false, td, a) = .inl (advL b n x, (stl 6 (stl 0 Z C).1.tail (stl 0 Z C).2).2, (stl 6 (stl 0 Z C).1.tail (stl 0 Z C).2).1, false, td.tail, a) := by
  unfold mst
  dsimp only
  rw [if_neg (by decide), if_neg (by rw [h3]; decide), if_pos ⟨⟨h3, h41⟩, hc⟩]
theorem mst_no {key n a : Nat} {b : Nat → Int32} {x : Lx} {C Z : List Int32} {td : List Bool} (h0 : ¬ x.1 = 0) (h41 : ¬ ((x.1 = 3 ∧ b x.2.1 = 41) ∧ 0 < cnt (-11) Z)) (hs : ∀ k, sgH b x = some k → rk k = 3 ∧ td.headD false = true) : mst key b n (x, C, Z, false, td, a) = .inr none := by
  unfold mst
  dsimp only
  rw [if_neg (by decide), if_neg h0, if_neg h41]
  cases hk : sgH b x with
  | none => rfl
  | some k =>
    dsimp only
    rw [if_pos (hs k hk)]
theorem mst_e0 {key n a : Nat} {b : Nat → Int32} {x : Lx} {C Z : List Int32} {td : List Bool} (h0 : x.1 = 0) (hc : ¬ cnt (-11) Z = 0) : mst key b n (x, C, Z, false, td, a) = .inr none := by
  unfold mst
  dsimp only
  rw [if_neg (by decide), if_pos h0, if_neg hc]
theorem mst_e1 {key n a : Nat} {b : Nat → Int32} {x : Lx} {C Z : List Int32} {td : List Bool} (h0 : x.1 = 0) (hc : cnt (-11) Z = 0) : mst key b n (x, C, Z, false, td, a) = .inr (some ((stl 0 Z C).2, a)) := by
  unfold mst
  dsimp only
  rw [if_neg (by decide), if_pos h0, if_pos hc]
theorem mst_nt {key n a : Nat} {b : Nat → Int32} {x : Lx} {C Z : List Int32} {td : List Bool} (h3 : x.1 = 3) (h33 : b x.2.1 = 33) (hc : cnt (-10) Z < 8) : mst key b n (x, C, Z, true, td, a) = .inl (advL b n x, C, -10 :: Z, true, td, a) := by
  unfold mst
  dsimp only
  rw [if_pos rfl, if_pos ⟨⟨h3, h33⟩, hc⟩]
theorem mst_pa {key n a : Nat} {b : Nat → Int32} {x : Lx} {C Z : List Int32} {td : List Bool} (h3 : x.1 = 3) (h40 : b x.2.1 = 40) (hc : cnt (-11) Z < 8) : mst key b n (x, C, Z, true, td, a) = .inl (advL b n x, C, -11 :: Z, true, false :: td, a) := by
  unfold mst
  dsimp only
  rw [if_pos rfl, if_neg (fun q => by rw [q.1.2] at h40; exact absurd h40 (by decide)), if_pos ⟨⟨h3, h40⟩, hc⟩]
theorem mst_at {key n a : Nat} {b : Nat → Int32} {x : Lx} {C Z : List Int32} {td : List Bool} {v : Int32} (h3 : ¬ x.1 = 3) (hp : prt key b x = some v) : mst key b n (x, C, Z, true, td, a) = .inl (advL b n x, (stl 6 Z (C ++ [v])).2, (stl 6 Z (C ++ [v])).1, false, td, a + 1) := by
  unfold mst
  dsimp only
  rw [if_pos rfl, if_neg (fun q => h3 q.1.1), if_neg (fun q => h3 q.1.1), hp]
theorem mst_fw {key n a : Nat} {b : Nat → Int32} {x : Lx} {C Z : List Int32} {td : List Bool} (h33 : ¬ ((x.1 = 3 ∧ b x.2.1 = 33) ∧ cnt (-10) Z < 8)) (h40 : ¬ ((x.1 = 3 ∧ b x.2.1 = 40) ∧ cnt (-11) Z < 8)) (hp : prt key b x = none) : mst key b n (x, C, Z, true, td, a) = .inr none := by
  unfold mst
  dsimp only
  rw [if_pos rfl, if_neg h33, if_neg h40, hp]
def exI (b : Nat → Int32) (lv : Nat) (x : Lx) (t : Bool) : Prop := ∀ l, lvH b x = some l → l < lv ∨ (l = 2 ∧ lv ≤ 2 ∧ t = true)
def SL (g key : Nat) (b : Nat → Int32) (n lv : Nat) (C Z : List Int32) (t : Bool) (td : List Bool) (a : Nat) (s s' : RS) (m : MS) : Prop :=
  (∀ p, s'.2.1 = some p → s'.1.1 = 4 ∧ Fa key b n m p) ∧
  (s'.2.1 = none → ∃ E P t', To key b n m (s'.1, C ++ E, P ++ Z, false, t' :: td, a + puL (E ++ P)) ∧ s'.2.2.1 = (C ++ (E ++ P)).map enS ∧ s'.2.2.2 = s.2.2.2 + puL (E ++ P) ∧ (∀ z ∈ P, lv + 1 ≤ rk z ∧ rk z ≤ 5) ∧ (3 ≤ lv → t' = t) ∧ exI b lv s'.1 t' ∧ gd key (E ++ P) ∧ LOk b n s'.1 ∧ s.1.2.1 < s'.1.2.1 ∧ (C ++ E).length + (P ++ Z).length + g ≤ s'.1.2.1)
theorem rdW_4 {F : RS → RS} {b : Nat → Int32} {n lv m : Nat} {s : RS} (h : s.1.1 = 4) : rdW F b n lv m s = s := by
  cases m with
  | zero => rfl
  | succ m =>
    rw [rdW_s, if_neg]
    unfold lvH
    rw [if_neg (by rw [h]; decide)]
    intro z; cases z
theorem as1_lt {v : Int32} {s : RS} (h : s.2.2.1.length < 96) : as1 v s = (s.1, s.2.1, s.2.2.1 ++ [v], s.2.2.2) := by
  unfold as1
  rw [if_pos h]
theorem as1_f {v : Int32} {s : RS} : (as1 v s).1 = s.1 ∧ (as1 v s).2.1 = s.2.1 := ⟨rfl, rfl⟩
theorem sim_W {g key n lv o k : Nat} {b : Nat → Int32} {F : RS → RS} (hn : n ≤ 96) (hlv : lv ≤ 4)
    (hF : ∀ (s : RS) (C Z : List Int32) (t : Bool) (td : List Bool) (a : Nat), s.2.1 = none → LOk b n s.1 → s.2.2.1 = C.map enS → cnt (-11) Z = o → cnt (-10) Z = k → tOk (lv + 1) Z → (lv + 1 ≤ 2 → t = false) → C.length + Z.length + g ≤ s.1.2.1 → SL g key b n (lv + 1) C Z t td a s (F s) (s.1, C, Z, true, t :: td, a))
    {C Z : List Int32} {t : Bool} {td : List Bool} {a : Nat} {s0 : RS} {m0 : MS} (tz : tOk lv Z) (c11 : cnt (-11) Z = o) (c10 : cnt (-10) Z = k) :
    ∀ (m : Nat) (s1 : RS) (E P : List Int32) (t1 : Bool), s1.2.1 = none → To key b n m0 (s1.1, C ++ E, P ++ Z, false, t1 :: td, a + puL (E ++ P)) → s1.2.2.1 = (C ++ (E ++ P)).map enS → s1.2.2.2 = s0.2.2.2 + puL (E ++ P) → (∀ z ∈ P, lv + 1 ≤ rk z ∧ rk z ≤ 5) → (3 ≤ lv → t1 = t) → exI b (lv + 1) s1.1 t1 → gd key (E ++ P) → LOk b n s1.1 → s0.1.2.1 < s1.1.2.1 → (C ++ E).length + (P ++ Z).length + g ≤ s1.1.2.1 → (lv = 2 → (m = 1 ∧ t1 = false) ∨ (m = 0 ∧ t1 = true)) → (lv ≠ 2 → 96 ≤ m + s1.1.2.1) → SL g key b n lv C Z t td a s0 (rdW F b n lv m s1) m0 := by
  intro m
  induction m with
  | zero =>
    intro s1 E P t1 f1 to1 o1 p1 P1 t3 ex g1 l1 st1 le1 m2 m3
    refine ⟨fun p hp => ?_, fun _ => ⟨E, P, t1, to1, o1, p1, P1, t3, fun l hl => ?_, g1, l1, st1, le1⟩⟩
    · have hp : s1.2.1 = some p := hp
      rw [f1] at hp; cases hp
    · have hl : lvH b s1.1 = some l := hl
      rcases ex l hl with q | q
      · by_cases e : l = lv
        · by_cases l2 : lv = 2
          · refine Or.inr ⟨by omega, by omega, ?_⟩
            rcases m2 l2 with z | z
            · exact absurd z.1 (by decide)
            · exact z.2
          · exfalso
            have x3 : s1.1.1 = 3 := by
              unfold lvH at hl
              split at hl
              · assumption
              · cases hl
            have := l1.2.2.2.2.1 (by rw [x3]; decide)
            have := l1.2.2.2.1
            have := m3 l2
            omega
        · exact Or.inl (by omega)
      · exact Or.inr ⟨q.1, by omega, q.2.2⟩
  | succ m ih =>
    intro s1 E P t1 f1 to1 o1 p1 P1 t3 ex g1 l1 st1 le1 m2 m3
    rw [rdW_s]
    by_cases hl : lvH b s1.1 = some lv
    · rw [if_pos hl]
      have x3 : s1.1.1 = 3 := by
        unfold lvH at hl
        split at hl
        · assumption
        · cases hl
      have hv : lvO (b s1.1.2.1) = some lv := by
        unfold lvH at hl
        rw [if_pos x3] at hl
        exact hl
      rcases sg_lv (b s1.1.2.1) with ⟨q, -⟩ | ⟨l, kk, q1, q2, q3, q4, q5, q6, q7, q8, q9, q10⟩
      · rw [q] at hv; cases hv
      rw [q1] at hv
      have hv : l = lv := Option.some.inj hv
      subst hv
      have tt : ¬ (rk kk = 3 ∧ (t1 :: td).headD false = true) := by
        rintro ⟨z1, z2⟩
        have z2 : t1 = true := z2
        rcases m2 (by omega) with w | w
        · rw [w.2] at z2; cases z2
        · exact absurd w.1 (by omega)
      have hm := mst_op (key := key) (n := n) (a := a + puL (E ++ P)) (C := C ++ E) (Z := P ++ Z) x3 q7 q2 tt
      rw [q3, stl_all tz (Nat.lt_succ_self l) P (C ++ E) (fun z hz => ⟨(rk_ne (P1 z hz).2).1, (P1 z hz).1⟩)] at hm
      dsimp only at hm
      rw [List.append_assoc C E P] at hm
      have to2 := to1.tr (To.one hm)
      have la := advL_ok (b := b) (x := s1.1) l1.2.2.2.1
      have sp : s1.1.2.1 < (advL b n s1.1).2.1 := by
        have := l1.2.2.2.2.1 (by rw [x3]; decide)
        omega
      have le2 : (C ++ (E ++ P)).length + (kk :: Z).length + g ≤ (advL b n s1.1).2.1 := by
        simp only [List.length_append, List.length_cons] at le1 ⊢
        omega
      have h2 := hF (ad b n s1) (C ++ (E ++ P)) (kk :: Z) (if l + 1 = 3 then true else if 3 < l + 1 then (t1 :: td).headD false else false) ((t1 :: td).tail) (a + puL (E ++ P)) f1 la.1 o1 (by rw [cnt_s, if_neg q10, c11]; omega) (by rw [cnt_s, if_neg q9, c10]; omega) (Or.inr ⟨kk, Z, rfl, Or.inr (by omega)⟩) (fun z => by rw [if_neg (by omega), if_neg (by omega)]) le2
      generalize F (ad b n s1) = s2 at h2
      obtain ⟨hf, hs⟩ := h2
      cases f2 : s2.2.1 with
      | some p =>
        obtain ⟨k4, fa⟩ := hf p f2
        rw [rdW_4 (s := as1 _ s2) (by rw [as1_f.1]; exact k4)]
        refine ⟨fun p' hp => ?_, fun z => ?_⟩
        · rw [as1_f.2, f2] at hp
          cases hp
          exact ⟨k4, to2.fa fa⟩
        · rw [as1_f.2, f2] at z; cases z
      | none =>
        obtain ⟨E2, P2, t4, to3, o3, p3, P3, t5, ex3, g3, l3, st3, le3⟩ := hs f2
        have len : s2.2.2.1.length < 96 := by
          rw [o3, List.length_map]
          have := l3.2.2.1
          simp only [List.length_append, List.length_cons] at le3 ⊢
          omega
        rw [as1_lt len]
        have gg := gd_two g1 g3 q6 q8 q9
        have e1 : C ++ ((E ++ P) ++ E2) = (C ++ (E ++ P)) ++ E2 := by rw [← List.append_assoc]
        have e2 : (P2 ++ [kk]) ++ Z = P2 ++ kk :: Z := by rw [List.append_assoc]; rfl
        have e3 : ((E ++ P) ++ E2) ++ (P2 ++ [kk]) = ((E ++ P) ++ (E2 ++ P2)) ++ [kk] := by simp only [List.append_assoc]
        refine ih (s2.1, s2.2.1, s2.2.2.1 ++ [-(b s1.1.2.1)], s2.2.2.2) ((E ++ P) ++ E2) (P2 ++ [kk]) t4 f2 ?_ ?_ ?_ ?_ ?_ ex3 ?_ l3 ?_ ?_ ?_ ?_
        · rw [e1, e2, e3, gg.2]
          have := to2.tr to3
          rw [Nat.add_assoc] at this
          exact this
        · show s2.2.2.1 ++ [-(b s1.1.2.1)] = _
          rw [o3, e3, ← q5]
          simp only [List.map_append, List.map_cons, List.map_nil, List.append_assoc]
        · show s2.2.2.2 = _
          rw [p3, e3, gg.2]
          show s1.2.2.2 + _ = _
          rw [p1]
          omega
        · intro z hz
          rcases List.mem_append.mp hz with w | w
          · exact ⟨by have := (P3 z w).1; omega, (P3 z w).2⟩
          · rw [List.mem_singleton.mp w]; exact ⟨by omega, by omega⟩
        · intro w
          rw [t5 (by omega), if_neg (by omega), if_pos (by omega)]
          exact t3 w
        · rw [e3]; exact gg.1
        · show s0.1.2.1 < s2.1.2.1
          have : (ad b n s1).1.2.1 < s2.1.2.1 := st3
          have e : (ad b n s1).1.2.1 = (advL b n s1.1).2.1 := rfl
          omega
        · rw [e1, e2]; exact le3
        · intro w
          right
          rcases m2 w with z | z
          · refine ⟨by omega, ?_⟩
            rw [t5 (by omega), if_pos (by omega)]
          · exact absurd z.1 (by omega)
        · intro w
          show 96 ≤ m + s2.1.2.1
          have := m3 w
          have h4 : (ad b n s1).1.2.1 < s2.1.2.1 := st3
          have e : (ad b n s1).1.2.1 = (advL b n s1.1).2.1 := rfl
          omega
    · rw [if_neg hl]
      refine ⟨fun p hp => ?_, fun _ => ⟨E, P, t1, to1, o1, p1, P1, t3, fun l hl2 => ?_, g1, l1, st1, le1⟩⟩
      · rw [f1] at hp; cases hp
      · rcases ex l hl2 with q | q
        · by_cases e : l = lv
          · rw [e] at hl2; exact absurd hl2 hl
          · exact Or.inl (by omega)
        · exact Or.inr ⟨q.1, by omega, q.2.2⟩

