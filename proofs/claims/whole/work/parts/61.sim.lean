/-! the class's reading: token, fault, steps, pieces -/
abbrev RS : Type := Lx × Option Nat × List Int32 × Nat
def fl (s : RS) : RS := ((4, s.1.2), (match s.2.1 with | none => some s.1.2.1 | some p => some p), s.2.2)
def ad (b : Nat → Int32) (n : Nat) (s : RS) : RS := (advL b n s.1, s.2)
def as1 (v : Int32) (s : RS) : RS := (s.1, s.2.1, (if s.2.2.1.length < 96 then s.2.2.1 ++ [v] else s.2.2.1), s.2.2.2)
def opd (b : Nat → Int32) (n : Nat) (v : Int32) (s : RS) : RS := (advL b n s.1, s.2.1, (if s.2.2.1.length < 96 then s.2.2.1 ++ [v] else s.2.2.1), s.2.2.2 + 1)
def rdW (F : RS → RS) (b : Nat → Int32) (n lv : Nat) : Nat → RS → RS
  | 0, s => s
  | m + 1, s => if lvH b s.1 = some lv then rdW F b n lv m (as1 (-(b s.1.2.1)) (F (ad b n s))) else s
theorem rdW_s (F : RS → RS) (b : Nat → Int32) (n lv m : Nat) (s : RS) : rdW F b n lv (m + 1) s = if lvH b s.1 = some lv then rdW F b n lv m (as1 (-(b s.1.2.1)) (F (ad b n s))) else s := rfl
/-- behind ( -/
def rdC (b : Nat → Int32) (n : Nat) (s : RS) : RS := if s.1.1 = 3 ∧ b s.1.2.1 = 41 then ad b n s else fl s
def rdQ (key : Nat) (b : Nat → Int32) (n o k : Nat) (F0 F6 : RS → RS) (s : RS) : RS := match prt key b s.1 with
  | some v => opd b n (enS v) s
  | none => if (s.1.1 = 3 ∧ b s.1.2.1 = 33) ∧ k < 8 then as1 (-33) (F6 (ad b n s)) else if (s.1.1 = 3 ∧ b s.1.2.1 = 40) ∧ o < 8 then rdC b n (F0 (ad b n s)) else fl s
def rd (key : Nat) (b : Nat → Int32) (n : Nat) : Nat → Nat → Nat → Nat → RS → RS
  | 0 => fun _ _ _ s => s
  | f + 1 => fun lv o k s => if lv = 6 then rdQ key b n o k (rd key b n f 0 (o + 1) k) (rd key b n f 6 o (k + 1)) s else if lv = 5 then rd key b n f 6 o k s else rdW (rd key b n f (lv + 1) o k) b n lv (if lv = 2 then 1 else 96) (rd key b n f (lv + 1) o k s)
theorem rd_s (key : Nat) (b : Nat → Int32) (n f lv o k : Nat) (s : RS) : rd key b n (f + 1) lv o k s = if lv = 6 then rdQ key b n o k (rd key b n f 0 (o + 1) k) (rd key b n f 6 o (k + 1)) s else if lv = 5 then rd key b n f 6 o k s else rdW (rd key b n f (lv + 1) o k) b n lv (if lv = 2 then 1 else 96) (rd key b n f (lv + 1) o k s) := rfl
/-! the reference's: token, code, what waits (the last first), whether a piece is wanted, tests, atoms -/
abbrev MS : Type := Lx × List Int32 × List Int32 × Bool × List Bool × Nat
def cnt (c : Int32) : List Int32 → Nat
  | [] => 0
  | z :: Z => (if z = c then 1 else 0) + cnt c Z
theorem cnt_s (c z : Int32) (Z : List Int32) : cnt c (z :: Z) = (if z = c then 1 else 0) + cnt c Z := rfl
def stl (r : Nat) : List Int32 → List Int32 → List Int32 × List Int32
  | [], C => ([], C)
  | z :: Z, C => if z = -11 then (z :: Z, C) else if r ≤ rk z then stl r Z (C ++ [z]) else (z :: Z, C)
theorem stl_s (r : Nat) (z : Int32) (Z C : List Int32) : stl r (z :: Z) C = if z = -11 then (z :: Z, C) else if r ≤ rk z then stl r Z (C ++ [z]) else (z :: Z, C) := rfl
def mst (key : Nat) (b : Nat → Int32) (n : Nat) (m : MS) : MS ⊕ Option (List Int32 × Nat) :=
  if m.2.2.2.1 = true then
    (if (m.1.1 = 3 ∧ b m.1.2.1 = 33) ∧ cnt (-10) m.2.2.1 < 8 then .inl (advL b n m.1, m.2.1, -10 :: m.2.2.1, true, m.2.2.2.2.1, m.2.2.2.2.2)
     else if (m.1.1 = 3 ∧ b m.1.2.1 = 40) ∧ cnt (-11) m.2.2.1 < 8 then .inl (advL b n m.1, m.2.1, -11 :: m.2.2.1, true, false :: m.2.2.2.2.1, m.2.2.2.2.2)
     else match prt key b m.1 with
      | some v => .inl (advL b n m.1, (stl 6 m.2.2.1 (m.2.1 ++ [v])).2, (stl 6 m.2.2.1 (m.2.1 ++ [v])).1, false, m.2.2.2.2.1, m.2.2.2.2.2 + 1)
      | none => .inr none)
  else if m.1.1 = 0 then (if cnt (-11) m.2.2.1 = 0 then .inr (some ((stl 0 m.2.2.1 m.2.1).2, m.2.2.2.2.2)) else .inr none)
  else if (m.1.1 = 3 ∧ b m.1.2.1 = 41) ∧ 0 < cnt (-11) m.2.2.1 then .inl (advL b n m.1, (stl 6 (stl 0 m.2.2.1 m.2.1).1.tail (stl 0 m.2.2.1 m.2.1).2).2, (stl 6 (stl 0 m.2.2.1 m.2.1).1.tail (stl 0 m.2.2.1 m.2.1).2).1, false, m.2.2.2.2.1.tail, m.2.2.2.2.2)
  else match sgH b m.1 with
    | none => .inr none
    | some k => if rk k = 3 ∧ m.2.2.2.2.1.headD false = true then .inr none else .inl (advL b n m.1, (stl (rk k) m.2.2.1 m.2.1).2, k :: (stl (rk k) m.2.2.1 m.2.1).1, true, (if rk k = 3 then true else if 3 < rk k then m.2.2.2.2.1.headD false else false) :: m.2.2.2.2.1.tail, m.2.2.2.2.2)
def runM (key : Nat) (b : Nat → Int32) (n : Nat) : Nat → MS → Option (Option (List Int32 × Nat) × Nat)
  | 0, _ => none
  | j + 1, m => match mst key b n m with
    | .inl m' => runM key b n j m'
    | .inr r => some (r, m.1.2.1)
theorem runM_l {key n j : Nat} {b : Nat → Int32} {m m' : MS} (h : mst key b n m = .inl m') : runM key b n (j + 1) m = runM key b n j m' := by
  show (match mst key b n m with | .inl m' => runM key b n j m' | .inr r => some (r, m.1.2.1)) = _
  rw [h]
theorem runM_r {key n j : Nat} {b : Nat → Int32} {m : MS} {r : Option (List Int32 × Nat)} (h : mst key b n m = .inr r) : runM key b n (j + 1) m = some (r, m.1.2.1) := by
  show (match mst key b n m with | .inl m' => runM key b n j m' | .inr r => some (r, m.1.2.1)) = _
  rw [h]
/-- the one comes to the other -/
def To (key : Nat) (b : Nat → Int32) (n : Nat) (m m' : MS) : Prop := ∃ j, ∀ i, runM key b n (i + j) m = runM key b n i m'
theorem To.one {key n : Nat} {b : Nat → Int32} {m m' : MS} (h : mst key b n m = .inl m') : To key b n m m' := ⟨1, fun _ => runM_l h⟩
theorem To.tr {key n : Nat} {b : Nat → Int32} {m m1 m2 : MS} (h1 : To key b n m m1) (h2 : To key b n m1 m2) : To key b n m m2 := by
  obtain ⟨j1, a⟩ := h1
  obtain ⟨j2, c⟩ := h2
  exact ⟨j2 + j1, fun i => by rw [← Nat.add_assoc, a, c]⟩
/-- the one comes to a fault -/
def Fa (key : Nat) (b : Nat → Int32) (n : Nat) (m : MS) (p : Nat) : Prop := ∃ j, runM key b n j m = some (none, p)
theorem Fa.one {key n : Nat} {b : Nat → Int32} {m : MS} (h : mst key b n m = .inr none) : Fa key b n m m.1.2.1 := ⟨1, runM_r h⟩
theorem To.fa {key n p : Nat} {b : Nat → Int32} {m m1 : MS} (h1 : To key b n m m1) (h2 : Fa key b n m1 p) : Fa key b n m p := by
  obtain ⟨j1, a⟩ := h1
  obtain ⟨j2, c⟩ := h2
  exact ⟨j2 + j1, by rw [a, c]⟩
/-! what waits -/
def tOk (r : Nat) (Z : List Int32) : Prop := Z = [] ∨ ∃ z Y, Z = z :: Y ∧ (z = -11 ∨ rk z ≤ r)
theorem tOk.le {r r' : Nat} {Z : List Int32} (h : tOk r Z) (hr : r ≤ r') : tOk r' Z := by
  rcases h with h | ⟨z, Y, h, q⟩
  · exact Or.inl h
  · exact Or.inr ⟨z, Y, h, q.imp id (fun w => by omega)⟩
theorem stl_top {r r' : Nat} {Z C : List Int32} (h : tOk r Z) (hr : r < r') : stl r' Z C = (Z, C) := by
  rcases h with rfl | ⟨z, Y, rfl, q⟩
  · rfl
  · rw [stl_s]
    rcases q with q | q
    · rw [if_pos q]
    · by_cases e : z = -11
      · rw [if_pos e]
      · rw [if_neg e, if_neg (by omega)]
theorem stl_all {r r' : Nat} {Z : List Int32} (h : tOk r Z) (hr : r < r') : ∀ (P C : List Int32), (∀ z ∈ P, z ≠ -11 ∧ r' ≤ rk z) → stl r' (P ++ Z) C = (Z, C ++ P) := by
  intro P
  induction P with
  | nil => intro C _; rw [List.nil_append, List.append_nil]; exact stl_top h hr
  | cons z P ih =>
    intro C hP
    have hz := hP z (List.mem_cons_self ..)
    rw [List.cons_append, stl_s, if_neg hz.1, if_pos hz.2, ih (C ++ [z]) (fun y hy => hP y (List.mem_cons_of_mem _ hy)), List.append_assoc]
    rfl
/-- up to ( -/
theorem stl_op {r' : Nat} (Z : List Int32) : ∀ (P C : List Int32), (∀ z ∈ P, z ≠ -11 ∧ r' ≤ rk z) → stl r' (P ++ -11 :: Z) C = (-11 :: Z, C ++ P) := by
  intro P
  induction P with
  | nil => intro C _; rw [List.nil_append, List.append_nil, stl_s, if_pos rfl]
  | cons z P ih =>
    intro C hP
    have hz := hP z (List.mem_cons_self ..)
    rw [List.cons_append, stl_s, if_neg hz.1, if_pos hz.2, ih (C ++ [z]) (fun y hy => hP y (List.mem_cons_of_mem _ hy)), List.append_assoc]
    rfl
theorem rk_11 : rk (-11) = 6 := by decide
theorem rk_10 : rk (-10) = 6 := by decide
theorem rk_ne {z : Int32} (h : rk z ≤ 5) : z ≠ -11 ∧ z ≠ -10 := ⟨fun e => by rw [e, rk_11] at h; omega, fun e => by rw [e, rk_10] at h; omega⟩
theorem cnt_app (c : Int32) : ∀ (P Z : List Int32), cnt c (P ++ Z) = cnt c P + cnt c Z := by
  intro P
  induction P with
  | nil => intro Z; rw [List.nil_append]; exact (Nat.zero_add _).symm
  | cons z P ih => intro Z; rw [List.cons_append, cnt_s, cnt_s, ih, Nat.add_assoc]
theorem cnt_0 {c : Int32} : ∀ {P : List Int32}, (∀ z ∈ P, z ≠ c) → cnt c P = 0 := by
  intro P
  induction P with
  | nil => intro _; rfl
  | cons z P ih => intro h; rw [cnt_s, if_neg (h z (List.mem_cons_self ..)), ih (fun y hy => h y (List.mem_cons_of_mem _ hy))]
/-! code that is worked out to one more -/
def okL : List Int32 → Nat → Prop
  | [], _ => True
  | c :: C, tp => okS c tp ∧ okL C (dpS c tp)
def dpL : List Int32 → Nat → Nat
  | [], tp => tp
  | c :: C, tp => dpL C (dpS c tp)
def puL : List Int32 → Nat
  | [] => 0
  | c :: C => (if c < 0 then 0 else 1) + puL C
theorem puL_app : ∀ (P Z : List Int32), puL (P ++ Z) = puL P + puL Z := by
  intro P
  induction P with
  | nil => intro Z; rw [List.nil_append]; exact (Nat.zero_add _).symm
  | cons z P ih => intro Z; show (if z < 0 then 0 else 1) + puL (P ++ Z) = (if z < 0 then 0 else 1) + puL P + puL Z; rw [ih, Nat.add_assoc]
theorem okL_app : ∀ (P Z : List Int32) (tp : Nat), okL P tp → okL Z (dpL P tp) → okL (P ++ Z) tp := by
  intro P
  induction P with
  | nil => intro Z tp _ h; exact h
  | cons z P ih => intro Z tp h1 h2; exact ⟨h1.1, ih Z _ h1.2 h2⟩
theorem dpL_app : ∀ (P Z : List Int32) (tp : Nat), dpL (P ++ Z) tp = dpL Z (dpL P tp) := by
  intro P
  induction P with
  | nil => intro Z tp; rfl
  | cons z P ih => intro Z tp; exact ih Z _
def gd (key : Nat) (E : List Int32) : Prop := (∀ tp, tp + E.length ≤ 96 → okL E tp ∧ dpL E tp = tp + 1) ∧ (key = 0 ∨ ∀ v ∈ E, v ≠ nI 10002) ∧ 1 ≤ E.length
theorem gd_at {key n : Nat} {b : Nat → Int32} {x : Lx} {v : Int32} (h : LOk b n x) (hp : prt key b x = some v) : gd key [v] ∧ puL [v] = 1 := by
  obtain ⟨p1, p2, p3, p4⟩ := prt_b h hp
  refine ⟨⟨fun tp ht => ⟨⟨?_, trivial⟩, ?_⟩, ?_, Nat.le_refl _⟩, ?_⟩
  · unfold okS
    rw [if_neg p1]
    have : tp + 1 ≤ 96 := ht
    exact ⟨by omega, p2⟩
  · show dpS v tp = tp + 1
    unfold dpS
    rw [if_neg p1]
  · rcases p3 with p3 | p3
    · exact Or.inl p3
    · refine Or.inr (fun y hy => ?_)
      rw [List.mem_singleton.mp hy]; exact p3
  · show (if v < 0 then 0 else 1) + 0 = 1
    rw [if_neg p1]
theorem gd_not {key : Nat} {E : List Int32} (h : gd key E) : gd key (E ++ [-10]) ∧ puL (E ++ [-10]) = puL E := by
  obtain ⟨h1, h2, h3⟩ := h
  refine ⟨⟨fun tp ht => ?_, ?_, by rw [List.length_append]; omega⟩, ?_⟩
  · rw [List.length_append] at ht
    have ht : tp + (E.length + 1) ≤ 96 := ht
    obtain ⟨a, c⟩ := h1 tp (by omega)
    have e : dpL [-10] (tp + 1) = tp + 1 := by show dpS (-10) (tp + 1) = tp + 1; unfold dpS; rw [if_pos (by decide), if_pos rfl]
    refine ⟨okL_app _ _ _ a ?_, by rw [dpL_app, c, e]⟩
    rw [c]
    refine ⟨?_, trivial⟩
    unfold okS
    rw [if_pos (by decide), if_pos rfl]
    omega
  · rcases h2 with h2 | h2
    · exact Or.inl h2
    · refine Or.inr (fun y hy => ?_)
      rcases List.mem_append.mp hy with q | q
      · exact h2 y q
      · rw [List.mem_singleton.mp q]; decide
  · rw [puL_app]; rfl
theorem gd_two {key : Nat} {E F : List Int32} {k : Int32} (h : gd key E) (g : gd key F) (hk : isS k) (k0 : k < 0) (k1 : k ≠ -10) : gd key ((E ++ F) ++ [k]) ∧ puL ((E ++ F) ++ [k]) = puL E + puL F := by
  obtain ⟨h1, h2, h3⟩ := h
  obtain ⟨g1, g2, g3⟩ := g
  refine ⟨⟨fun tp ht => ?_, ?_, by rw [List.length_append]; exact Nat.le_add_left _ _⟩, ?_⟩
  · rw [List.length_append, List.length_append] at ht
    have ht : tp + (E.length + F.length + 1) ≤ 96 := ht
    obtain ⟨a, c⟩ := h1 tp (by omega)
    obtain ⟨a', c'⟩ := g1 (tp + 1) (by omega)
    have e : dpL [k] (tp + 1 + 1) = tp + 1 := by show dpS k (tp + 1 + 1) = tp + 1; unfold dpS; rw [if_pos k0, if_neg k1]; omega
    refine ⟨okL_app _ _ _ (okL_app _ _ _ a (by rw [c]; exact a')) ?_, by rw [dpL_app, dpL_app, c, c', e]⟩
    rw [dpL_app, c, c']
    refine ⟨?_, trivial⟩
    unfold okS
    rw [if_pos k0, if_neg k1]
    exact ⟨by omega, hk⟩
  · rcases h2 with h2 | h2
    · exact Or.inl h2
    · rcases g2 with g2 | g2
      · exact Or.inl g2
      · refine Or.inr (fun y hy => ?_)
        rcases List.mem_append.mp hy with q | q
        · rcases List.mem_append.mp q with q | q
          · exact h2 y q
          · exact g2 y q
        · rw [List.mem_singleton.mp q]
          intro z
          rw [z] at k0
          exact absurd k0 (by decide)
  · rw [puL_app, puL_app]
    show puL E + puL F + ((if k < 0 then 0 else 1) + 0) = _
    rw [if_pos k0]
    omega

