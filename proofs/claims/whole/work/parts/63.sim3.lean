def mu (lv o k : Nat) : Nat := 7 * (8 - o) + (8 - k) + (6 - lv)
def SP (g key : Nat) (b : Nat → Int32) (n q : Nat) (C Z : List Int32) (t : Bool) (td : List Bool) (a : Nat) (s s' : RS) (m : MS) : Prop :=
  (∀ p, s'.2.1 = some p → s'.1.1 = 4 ∧ Fa key b n m p) ∧
  (s'.2.1 = none → ∃ E, To key b n m (s'.1, C ++ (E ++ List.replicate q (-10)), Z, false, t :: td, a + puL E) ∧ s'.2.2.1 = (C ++ E).map enS ∧ s'.2.2.2 = s.2.2.2 + puL E ∧ gd key E ∧ LOk b n s'.1 ∧ s.1.2.1 < s'.1.2.1 ∧ (C ++ (E ++ List.replicate q (-10))).length + Z.length + g ≤ s'.1.2.1)
theorem SP.fl {g key n q : Nat} {b : Nat → Int32} {C Z : List Int32} {t : Bool} {td : List Bool} {a : Nat} {s : RS} {m : MS} (s1 : RS) (h : s1.2.1 = none) (hf : Fa key b n m s1.1.2.1) : SP g key b n q C Z t td a s (fl s1) m := by
  refine ⟨fun p hp => ?_, fun z => ?_⟩
  · have hp : (match s1.2.1 with | none => some s1.1.2.1 | some p => some p) = some p := hp
    rw [h] at hp
    have hp : s1.1.2.1 = p := Option.some.inj hp
    subst hp
    exact ⟨rfl, hf⟩
  · have z : (match s1.2.1 with | none => some s1.1.2.1 | some p => some p) = none := z
    rw [h] at z
    cases z
theorem fl_f {s : RS} {p : Nat} (h : s.2.1 = some p) : (fl s).2.1 = some p := by
  show (match s.2.1 with | none => some s.1.2.1 | some p => some p) = some p
  rw [h]
theorem rep_rk (q : Nat) : ∀ z ∈ List.replicate q (-10 : Int32), z ≠ -11 ∧ 6 ≤ rk z := by
  intro z hz
  rw [(List.mem_replicate.mp hz).2]
  exact ⟨by decide, by decide⟩
theorem P_rk {lv : Nat} {P : List Int32} (h : ∀ z ∈ P, lv + 1 ≤ rk z ∧ rk z ≤ 5) : ∀ z ∈ P, z ≠ -11 ∧ 0 ≤ rk z := fun z hz => ⟨(rk_ne (h z hz).2).1, Nat.zero_le _⟩
theorem sg_3 {b : Nat → Int32} {x : Lx} {k : Int32} {t : Bool} {td : List Bool} (ex : exI b 0 x t) (h : sgH b x = some k) : rk k = 3 ∧ (t :: td).headD false = true := by
  unfold sgH at h
  split at h
  · rename_i x3
    rcases sg_lv (b x.2.1) with ⟨-, q⟩ | ⟨l, kk, q1, q2, q3, -⟩
    · rw [q] at h; cases h
    · rw [q2] at h
      have h : kk = k := Option.some.inj h
      subst h
      have hl : lvH b x = some l := by unfold lvH; rw [if_pos x3]; exact q1
      rcases ex l hl with w | w
      · omega
      · exact ⟨by omega, w.2.2⟩
  · cases h
theorem sim {g key n : Nat} {b : Nat → Int32} (hn : n ≤ 96) : ∀ (f : Nat),
    (∀ (o k q : Nat) (s : RS) (C Z : List Int32) (t : Bool) (td : List Bool) (a : Nat), f = mu 6 o k + 1 → o ≤ 8 → k ≤ 8 → s.2.1 = none → LOk b n s.1 → s.2.2.1 = C.map enS → cnt (-11) (List.replicate q (-10) ++ Z) = o → cnt (-10) (List.replicate q (-10) ++ Z) = k → tOk 5 Z → C.length + (List.replicate q (-10 : Int32) ++ Z).length + g ≤ s.1.2.1 → SP g key b n q C Z t td a s (rd key b n f 6 o k s) (s.1, C, List.replicate q (-10) ++ Z, true, t :: td, a)) ∧
    (∀ (lv o k : Nat) (s : RS) (C Z : List Int32) (t : Bool) (td : List Bool) (a : Nat), f = mu lv o k + 1 → lv ≤ 5 → o ≤ 8 → k ≤ 8 → s.2.1 = none → LOk b n s.1 → s.2.2.1 = C.map enS → cnt (-11) Z = o → cnt (-10) Z = k → tOk lv Z → (lv ≤ 2 → t = false) → C.length + Z.length + g ≤ s.1.2.1 → SL g key b n lv C Z t td a s (rd key b n f lv o k s) (s.1, C, Z, true, t :: td, a)) := by
  intro f
  induction f with
  | zero => exact ⟨fun o k q s C Z t td a h => absurd h (by omega), fun lv o k s C Z t td a h => absurd h (by omega)⟩
  | succ f ih =>
    obtain ⟨ihP, ihL⟩ := ih
    constructor
    · intro o k q s C Z t td a hf ho hk f1 l1 o1 c11 c10 tz le1
      rw [rd_s, if_pos rfl]
      unfold rdQ
      cases hp : prt key b s.1 with
      | some v =>
        dsimp only
        obtain ⟨p1, p2, p3, p4⟩ := prt_b l1 hp
        have x3 : ¬ s.1.1 = 3 := by omega
        have hm := mst_at (key := key) (n := n) (a := a) (C := C) (Z := List.replicate q (-10) ++ Z) (td := t :: td) x3 hp
        rw [stl_all tz (by decide : 5 < 6) (List.replicate q (-10)) (C ++ [v]) (rep_rk q)] at hm
        dsimp only at hm
        have lt := l1.2.2.2.2.1 (by omega)
        have la := advL_ok (b := b) (x := s.1) l1.2.2.2.1
        have h1 := l1.2.2.2.1
        have len : s.2.2.1.length < 96 := by
          rw [o1, List.length_map]
          omega
        obtain ⟨g1, g2⟩ := gd_at l1 hp
        have eo : opd b n (enS v) s = (advL b n s.1, s.2.1, s.2.2.1 ++ [enS v], s.2.2.2 + 1) := by unfold opd; rw [if_pos len]
        rw [eo]
        refine ⟨fun p hp => ?_, fun _ => ⟨[v], ?_, ?_, ?_, g1, la.1, ?_, ?_⟩⟩
        · have hp : s.2.1 = some p := hp
          rw [f1] at hp; cases hp
        · rw [g2, ← List.append_assoc]; exact To.one hm
        · show s.2.2.1 ++ [enS v] = _
          rw [o1, List.map_append]; rfl
        · show s.2.2.2 + 1 = _
          rw [g2]
        · show s.1.2.1 < (advL b n s.1).2.1
          have := la.2
          omega
        · show _ ≤ (advL b n s.1).2.1
          have := la.2
          simp only [List.length_append, List.length_cons, List.length_nil] at le1 ⊢
          omega
      | none =>
        dsimp only
        by_cases h33 : (s.1.1 = 3 ∧ b s.1.2.1 = 33) ∧ k < 8
        · rw [if_pos h33]
          have hm := mst_nt (key := key) (n := n) (a := a) (C := C) (Z := List.replicate q (-10) ++ Z) (td := t :: td) h33.1.1 h33.1.2 (by rw [c10]; exact h33.2)
          have lt := l1.2.2.2.2.1 (by rw [h33.1.1]; decide)
          have la := advL_ok (b := b) (x := s.1) l1.2.2.2.1
          have er : (-10 : Int32) :: (List.replicate q (-10) ++ Z) = List.replicate (q + 1) (-10) ++ Z := by rw [List.replicate_succ]; rfl
          rw [er] at hm
          have h2 := ihP o (k + 1) (q + 1) (ad b n s) C Z t td a (by unfold mu at hf ⊢; omega) ho (by omega) f1 la.1 o1 (by rw [← er, cnt_s, if_neg (by decide), c11]; omega) (by rw [← er, cnt_s, if_pos rfl, c10]; omega) tz (by
            show _ ≤ (advL b n s.1).2.1
            have := la.2
            rw [← er]
            simp only [List.length_append, List.length_cons] at le1 ⊢
            omega)
          generalize rd key b n f 6 o (k + 1) (ad b n s) = s2 at h2
          obtain ⟨hfl, hs⟩ := h2
          refine ⟨fun p hp => ?_, fun z => ?_⟩
          · obtain ⟨k4, fa⟩ := hfl p hp
            exact ⟨k4, (To.one hm).fa fa⟩
          · obtain ⟨E, to1, o3, p3, g3, l3, st3, le3⟩ := hs z
            have len : s2.2.2.1.length < 96 := by
              rw [o3, List.length_map]
              have := l3.2.2.1
              simp only [List.length_append, List.length_replicate] at le3 ⊢
              omega
            rw [as1_lt len]
            obtain ⟨g4, g5⟩ := gd_not g3
            have e2 : (E ++ [-10]) ++ List.replicate q (-10) = E ++ List.replicate (q + 1) (-10) := by rw [List.replicate_succ, List.append_assoc]; rfl
            refine ⟨E ++ [-10], ?_, ?_, ?_, g4, l3, ?_, ?_⟩
            · rw [e2, g5]; exact (To.one hm).tr to1
            · show s2.2.2.1 ++ [-33] = _
              rw [o3]
              simp only [List.map_append, List.map_cons, List.map_nil, List.append_assoc]
              rfl
            · show s2.2.2.2 = _
              rw [p3, g5]; rfl
            · show s.1.2.1 < s2.1.2.1
              have h4 : (advL b n s.1).2.1 < s2.1.2.1 := st3
              have := la.2
              omega
            · rw [e2]; exact le3
        · rw [if_neg h33]
          by_cases h40 : (s.1.1 = 3 ∧ b s.1.2.1 = 40) ∧ o < 8
          · rw [if_pos h40]
            have hm := mst_pa (key := key) (n := n) (a := a) (C := C) (Z := List.replicate q (-10) ++ Z) (td := t :: td) h40.1.1 h40.1.2 (by rw [c11]; exact h40.2)
            have lt := l1.2.2.2.2.1 (by rw [h40.1.1]; decide)
            have la := advL_ok (b := b) (x := s.1) l1.2.2.2.1
            have h2 := ihL 0 (o + 1) k (ad b n s) C (-11 :: (List.replicate q (-10) ++ Z)) false (t :: td) a (by unfold mu at hf ⊢; omega) (by decide) (by omega) hk f1 la.1 o1 (by rw [cnt_s, if_pos rfl, c11]; omega) (by rw [cnt_s, if_neg (by decide), c10]; omega) (Or.inr ⟨-11, _, rfl, Or.inl rfl⟩) (fun _ => rfl) (by
              show _ ≤ (advL b n s.1).2.1
              have := la.2
              simp only [List.length_append, List.length_cons] at le1 ⊢
              omega)
            generalize rd key b n f 0 (o + 1) k (ad b n s) = s2 at h2
            obtain ⟨hfl, hs⟩ := h2
            unfold rdC
            cases f2 : s2.2.1 with
            | some p =>
              obtain ⟨k4, fa⟩ := hfl p f2
              rw [if_neg (fun z => by rw [k4] at z; exact absurd z.1 (by decide))]
              refine ⟨fun p' hp => ?_, fun z => ?_⟩
              · rw [fl_f f2] at hp
                cases hp
                exact ⟨rfl, (To.one hm).fa fa⟩
              · rw [fl_f f2] at z; cases z
            | none =>
              obtain ⟨E, P, t4, to3, o3, p3, P3, -, ex3, g3, l3, st3, le3⟩ := hs f2
              have to4 := (To.one hm).tr to3
              have h4 : (advL b n s.1).2.1 < s2.1.2.1 := st3
              have cc : cnt (-11) (P ++ -11 :: (List.replicate q (-10) ++ Z)) = o + 1 := by
                rw [cnt_app, cnt_0 (fun z hz => (rk_ne (P3 z hz).2).1), cnt_s, if_pos rfl, c11]; omega
              by_cases h41 : s2.1.1 = 3 ∧ b s2.1.2.1 = 41
              · rw [if_pos h41]
                have hm2 := mst_cl (key := key) (n := n) (a := a + puL (E ++ P)) (C := C ++ E) (Z := P ++ -11 :: (List.replicate q (-10) ++ Z)) (td := t4 :: t :: td) h41.1 h41.2 (by rw [cc]; omega)
                rw [stl_op (r' := 0) (List.replicate q (-10) ++ Z) P (C ++ E) (P_rk P3)] at hm2
                dsimp only [List.tail] at hm2
                rw [stl_all tz (by decide : 5 < 6) (List.replicate q (-10)) (C ++ E ++ P) (rep_rk q)] at hm2
                dsimp only at hm2
                have la2 := advL_ok (b := b) (x := s2.1) l3.2.2.2.1
                have lt2 := l3.2.2.2.2.1 (by rw [h41.1]; decide)
                refine ⟨fun p hp => ?_, fun _ => ⟨E ++ P, ?_, o3, p3, g3, la2.1, ?_, ?_⟩⟩
                · have hp : s2.2.1 = some p := hp
                  rw [f2] at hp; cases hp
                · have := to4.tr (To.one hm2)
                  simp only [List.append_assoc] at this ⊢
                  exact this
                · show s.1.2.1 < (advL b n s2.1).2.1
                  have := la.2
                  have := la2.2
                  omega
                · show _ ≤ (advL b n s2.1).2.1
                  have := la2.2
                  simp only [List.length_append, List.length_cons] at le3 ⊢
                  omega
              · rw [if_neg h41]
                refine SP.fl s2 f2 (to4.fa ?_)
                by_cases x0 : s2.1.1 = 0
                · exact Fa.one (mst_e0 x0 (by rw [cc]; omega))
                · exact Fa.one (mst_no x0 (fun z => h41 z.1) (fun kk hkk => sg_3 ex3 hkk))
          · rw [if_neg h40]
            exact SP.fl s f1 (Fa.one (mst_fw (by rw [c10]; exact h33) (by rw [c11]; exact h40) hp))
    · intro lv o k s C Z t td a hf hlv ho hk f1 l1 o1 c11 c10 tz t2 le1
      rw [rd_s, if_neg (by omega)]
      by_cases h5 : lv = 5
      · rw [if_pos h5]
        subst h5
        obtain ⟨hfl, hs⟩ := ihP o k 0 s C Z t td a (by unfold mu at hf ⊢; omega) ho hk f1 l1 o1 c11 c10 tz le1
        refine ⟨hfl, fun z => ?_⟩
        obtain ⟨E, to1, o3, p3, g3, l3, st3, le3⟩ := hs z
        rw [List.replicate_zero, List.append_nil] at to1 le3
        refine ⟨E, [], t, ?_, ?_, ?_, fun z hz => absurd hz (List.not_mem_nil), fun _ => rfl, fun l hl => ?_, ?_, l3, st3, le3⟩
        · rw [List.append_nil]; exact to1
        · rw [List.append_nil]; exact o3
        · rw [List.append_nil]; exact p3
        · left
          unfold lvH at hl
          split at hl
          · rcases sg_lv (b (rd key b n f 6 o k s).1.2.1) with ⟨q, -⟩ | ⟨l', kk, q1, q2, q3, q4, -⟩
            · rw [q] at hl; cases hl
            · rw [q1] at hl
              have hl : l' = l := Option.some.inj hl
              omega
          · cases hl
        · rw [List.append_nil]; exact g3
      · rw [if_neg h5]
        have hF : ∀ (s : RS) (C Z : List Int32) (t : Bool) (td : List Bool) (a : Nat), s.2.1 = none → LOk b n s.1 → s.2.2.1 = C.map enS → cnt (-11) Z = o → cnt (-10) Z = k → tOk (lv + 1) Z → (lv + 1 ≤ 2 → t = false) → C.length + Z.length + g ≤ s.1.2.1 → SL g key b n (lv + 1) C Z t td a s (rd key b n f (lv + 1) o k s) (s.1, C, Z, true, t :: td, a) := fun s C Z t td a f1 l1 o1 c1 c2 tz t2 le => ihL (lv + 1) o k s C Z t td a (by unfold mu at hf ⊢; omega) (by omega) ho hk f1 l1 o1 c1 c2 tz t2 le
        obtain ⟨hfl, hs⟩ := hF s C Z t td a f1 l1 o1 c11 c10 (tz.le (by omega)) (fun _ => t2 (by omega)) le1
        cases f2 : (rd key b n f (lv + 1) o k s).2.1 with
        | some p =>
          obtain ⟨k4, fa⟩ := hfl p f2
          rw [rdW_4 k4]
          refine ⟨fun p' hp => ?_, fun z => ?_⟩
          · rw [f2] at hp; cases hp
            exact ⟨k4, fa⟩
          · rw [f2] at z; cases z
        | none =>
          obtain ⟨E, P, t4, to3, o3, p3, P3, t5, ex3, g3, l3, st3, le3⟩ := hs f2
          refine sim_W hn (by omega) hF tz c11 c10 _ _ E P t4 f2 to3 o3 p3 (fun z hz => ⟨by have := (P3 z hz).1; omega, (P3 z hz).2⟩) (fun w => t5 (by omega)) ex3 g3 l3 st3 le3 (fun w => ?_) (fun w => ?_)
          · left
            rw [if_pos w]
            exact ⟨rfl, by rw [t5 (by omega)]; exact t2 (by omega)⟩
          · rw [if_neg w]; omega
/-- all of it -/
theorem sim_all {key n : Nat} {b : Nat → Int32} {x : Lx} (hn : n ≤ 96) (hx : LOk b n x) {s' : RS} (hs : rd key b n 71 0 0 0 (x, none, [], 0) = s') :
    (∀ p, (if s'.1.1 = 0 then s' else fl s').2.1 = some p → Fa key b n (x, [], [], true, [false], 0) p) ∧
    ((if s'.1.1 = 0 then s' else fl s').2.1 = none → s'.1.1 = 0 ∧ ∃ C j, runM key b n j (x, [], [], true, [false], 0) = some (some (C, puL C), s'.1.2.1) ∧ s'.2.2.1 = C.map enS ∧ s'.2.2.2 = puL C ∧ gd key C ∧ C.length + x.2.1 ≤ 96) := by
  obtain ⟨hfl, hok⟩ := (sim (g := x.2.1) (key := key) (b := b) hn 71).2 0 0 0 (x, none, [], 0) [] [] false [] 0 (by unfold mu; decide) (by decide) (by decide) (by decide) rfl hx rfl rfl rfl (Or.inl rfl) (fun _ => rfl) (by show 0 + 0 + x.2.1 ≤ x.2.1; omega)
  rw [hs] at hfl hok
  cases f2 : s'.2.1 with
  | some p =>
    obtain ⟨k4, fa⟩ := hfl p f2
    rw [if_neg (by rw [k4]; decide)]
    refine ⟨fun p' hp => ?_, fun z => ?_⟩
    · rw [fl_f f2] at hp; cases hp; exact fa
    · rw [fl_f f2] at z; cases z
  | none =>
    obtain ⟨E, P, t4, to3, o3, p3, P3, t5, ex3, g3, l3, st3, le3⟩ := hok f2
    rw [List.append_nil, List.nil_append] at to3 le3
    have c0 : cnt (-11) P = 0 := cnt_0 (fun z hz => (rk_ne (P3 z hz).2).1)
    by_cases x0 : s'.1.1 = 0
    · rw [if_pos x0]
      refine ⟨fun p hp => (by rw [f2] at hp; cases hp), fun _ => ⟨x0, E ++ P, ?_⟩⟩
      obtain ⟨j, hj⟩ := to3
      have hm := mst_e1 (key := key) (n := n) (a := 0 + puL (E ++ P)) (C := E) (Z := P) (td := [t4]) (b := b) x0 c0
      have hst2 : (stl 0 P E).2 = E ++ P := by
        have e0 : ∀ (P E : List Int32), (∀ z ∈ P, z ≠ -11) → (stl 0 P E).2 = E ++ P := by
          intro P
          induction P with
          | nil => intro E _; exact (List.append_nil E).symm
          | cons z P ih =>
            intro E h
            rw [stl_s, if_neg (h z (List.mem_cons_self ..)), if_pos (Nat.zero_le _), ih _ (fun y hy => h y (List.mem_cons_of_mem _ hy)), List.append_assoc]
            rfl
        exact e0 P E (fun z hz => (rk_ne (P3 z hz).2).1)
      rw [hst2, Nat.zero_add] at hm
      rw [Nat.zero_add] at hj
      refine ⟨1 + j, by rw [hj 1]; exact runM_r hm, o3, by rw [p3]; exact Nat.zero_add _, g3, ?_⟩
      have := l3.2.2.1
      rw [List.length_append]
      omega
    · rw [if_neg x0]
      have fa : Fa key b n (x, [], [], true, [false], 0) s'.1.2.1 := To.fa to3 (Fa.one (mst_no x0 (fun z => by rw [c0] at z; exact absurd z.2 (by decide)) (fun kk hkk => sg_3 ex3 hkk)))
      have hq := SP.fl (g := 0) (key := key) (n := n) (q := 0) (b := b) (C := []) (Z := []) (t := false) (td := []) (a := 0) (s := (x, none, [], 0)) s' f2 fa
      exact ⟨fun p hp => (hq.1 p hp).2, fun z => by obtain ⟨E, -⟩ := hq.2 z; exact absurd (show (fl s').2.1 = none from z) (by show ¬ (match s'.2.1 with | none => some s'.1.2.1 | some p => some p) = none; rw [f2]; intro w; cases w)⟩

