def lw_g : List Cond := lw_tbl.filter goodWord
theorem lw_in {w : Cond} (h : w ∈ lw_tbl) (hg : goodWord w = true) : w ∈ lw_g := List.mem_filter.mpr ⟨h, hg⟩
def nestL : List (String × Nat × MethodName × String) := [("BeggarCorners", 9, ⟨"BeggarCorners$Street", "<init>", "()V"⟩, "BeggarCorners"), ("BeggarCorners", 28, ⟨"BeggarCorners$Reader", "<init>", "()V"⟩, "BeggarCorners"), ("BeggarCorners$Reader", 11, ⟨"BeggarCorners$Tape", "<init>", "()V"⟩, "BeggarCorners"), ("BeggarCorners", 46, ⟨"BeggarCorners$Alms", "<init>", "()V"⟩, "BeggarCorners"), ("BeggarCorners", 71, ⟨"BeggarCorners$Sheet", "<init>", "()V"⟩, "BeggarCorners"), ("BeggarCorners", 72, ⟨"BeggarCorners$Slot", "<init>", "()V"⟩, "BeggarCorners"), ("BeggarCorners$Slot", 26, ⟨"BeggarCorners$Sheet", "<init>", "()V"⟩, "BeggarCorners"), ("BeggarCorners$Alms", 31, ⟨"BeggarCorners", "held", "(III)I"⟩, "BeggarCorners"), ("BeggarCorners$Kinds", 13, ⟨"BeggarCorners", "within", "(III)Z"⟩, "BeggarCorners"), ("BeggarCorners$Street", 96, ⟨"BeggarCorners", "isCorner", "(I)Z"⟩, "BeggarCorners"), ("BeggarCorners$Sheet", 34, ⟨"BeggarCorners", "within", "(III)Z"⟩, "BeggarCorners")]
/-! ===== THE PICTURE: all that the law makes lies from one base on, by the order of making; ints in one table, references in another ===== -/
/-- launch; classes and slots; array classes; base; what lies elsewhere; the script's length, the script; a formatter that nobody uses -/
abbrev GX : Type := Launch × va_G × (Nat → ClassId) × Nat × (Nat → Nat) × Nat × (Nat → Int32) × Value
abbrev gD (G : GX) : va_G := G.2.1
abbrev gCy (G : GX) : Nat → ClassId := G.2.2.1
abbrev gB (G : GX) : Nat := G.2.2.2.1
abbrev gXt (G : GX) : Nat → Nat := G.2.2.2.2.1
abbrev gN (G : GX) : Nat := G.2.2.2.2.2.1
abbrev gXs (G : GX) : Nat → Int32 := G.2.2.2.2.2.2.1
abbrev gFm (G : GX) : Value := G.2.2.2.2.2.2.2
/-- how many there are; the kind of each (a class, or an array's sort) and an array's length; the references -/
abbrev Shp : Type := Nat × (Nat → Nat × Nat) × (Nat → Nat → Option Nat)
abbrev Mem : Type := Nat → Nat → Int32
def gF (G : GX) : Nat → Prop := fun q => gB G ≤ q
def gA (G : GX) (i : Nat) : Nat := if i < 1000000 then gB G + i else gXt G (i - 1000000)
def em (G : GX) (v : Value) : Value := match v with
  | .ref i => .ref (gA G i)
  | w => w
theorem em_cat (G : GX) (v : Value) : (em G v).category = v.category := by cases v <;> rfl
theorem em_sum (G : GX) (st : List Value) : ((st.map (em G)).map fun v => v.category).sum = (st.map fun v => v.category).sum := by
  rw [List.map_map]
  congr 1
  apply List.map_congr_left
  intro v _
  exact em_cat G v
def nFl : Nat → Nat
  | 0 => 2
  | 1 => 9
  | 2 => 3
  | 3 => 5
  | 4 => 14
  | 5 => 2
  | 6 => 4
  | 7 => 12
  | _ => 33
def rfL : Nat → List Bool
  | 0 => [true, true]
  | 1 => [true, false, false, false, false, false, true, false, false]
  | 2 => [false, false, true]
  | 3 => [false, false, false, false, true]
  | 4 => [true, true, true, true, true, true, false, false, false, false, false, false, false, false]
  | 5 => [true, false]
  | 6 => [false, false, true, true]
  | 7 => [true, true, true, false, true, true, true, true, true, true, true, false]
  | _ => [true, true, true, false, true, true, false, false, false, false, false, false, false, true, true, true, false, false, true, false, true, true, true, true, true, true, true, true, true, true, true, true, false]
def rfF (k j : Nat) : Bool := (rfL k).getD j false
def fldO (G : GX) (c : Nat) (P : Nat → Option Nat) (f : Nat → Int32) (j : Nat) : Value := if rfF c j = true then va_rf ((P j).map (gA G)) else .int (f j)
def cellO (G : GX) (q : Nat × Nat) (P : Nat → Option Nat) (f : Nat → Int32) : va_E :=
  if q.1 < 9 then .inr (q.1, (List.range (nFl q.1)).map (fldO G q.1 P f))
  else if q.1 < 13 then .inl (gCy G q.1, q.2, .inl f)
  else .inl (gCy G q.1, q.2, .inr (.inr (.inr (.inr (fun j => (P j).map (gA G))))))
def wsO (G : GX) (S : Shp) (I : Mem) : va_W := (List.range S.1).map fun i => (gB G + i, cellO G (S.2.1 i) (S.2.2 i) (I i))
def tyO (G : GX) : List (ClassId × FieldType) := [(gCy G 9, .int), (gCy G 10, .byte), (gCy G 11, .boolean), (gCy G 12, .char), (gCy G 13, .object RX3), (gCy G 14, .object RX4), (gCy G 15, .object RX7)]
def Hp (G : GX) (S : Shp) (I : Mem) (H : Heap) : Prop := H.size = gB G + S.1 ∧ S.1 ≤ 900000 ∧ va_P (gD G) vwCl (wsO G S I) H
theorem wsO_at {G : GX} {S : Shp} {I : Mem} {i : Nat} (h : i < S.1) : (wsO G S I)[i]? = some (gB G + i, cellO G (S.2.1 i) (S.2.2 i) (I i)) := by
  unfold wsO
  rw [List.getElem?_map, List.getElem?_range h]
  rfl
theorem wsO_of {G : GX} {S : Shp} {I : Mem} {i : Nat} {q : Nat × va_E} (h : (wsO G S I)[i]? = some q) : i < S.1 ∧ q = (gB G + i, cellO G (S.2.1 i) (S.2.2 i) (I i)) := by
  have hl : i < S.1 := by
    have := (List.getElem?_eq_some_iff.mp h).1
    simpa [wsO] using this
  exact ⟨hl, Option.some.inj (h.symm.trans (wsO_at hl))⟩
theorem wsO_D (G : GX) (S : Shp) (I : Mem) : va_D (gF G) (wsO G S I) := by
  refine ⟨fun i j x y hi hj hxy => ?_, fun k q hk => ?_⟩
  · obtain ⟨-, rfl⟩ := wsO_of hi
    obtain ⟨-, rfl⟩ := wsO_of hj
    have : gB G + i = gB G + j := hxy
    omega
  · obtain ⟨-, rfl⟩ := wsO_of hk
    exact Nat.le_add_right _ _
theorem gA_lt {G : GX} {S : Shp} {i : Nat} (h : i < S.1) (hS : S.1 ≤ 900000) : gA G i = gB G + i := by
  unfold gA
  rw [if_pos (by omega)]
theorem wsO_set {G : GX} {S S' : Shp} {I I' : Mem} {a : Nat} (ha : a < S.1) (hn : S'.1 = S.1) (ho : ∀ i, i < S.1 → i ≠ a → cellO G (S'.2.1 i) (S'.2.2 i) (I' i) = cellO G (S.2.1 i) (S.2.2 i) (I i)) :
    (wsO G S I).set a (gB G + a, cellO G (S'.2.1 a) (S'.2.2 a) (I' a)) = wsO G S' I' := by
  apply List.ext_getElem?
  intro i
  by_cases hi : i < S.1
  · rw [wsO_at (S := S') (by omega)]
    by_cases hia : i = a
    · subst hia
      rw [List.getElem?_set_self (by simpa [wsO] using hi)]
    · rw [List.getElem?_set_ne (Ne.symm hia), wsO_at hi, ho i hi hia]
  · rw [List.getElem?_eq_none (by simp [wsO]; omega), List.getElem?_eq_none (by simp [wsO]; omega)]
theorem wsO_push {G : GX} {S S' : Shp} {I I' : Mem} (hn : S'.1 = S.1 + 1) (ho : ∀ i, i < S.1 → cellO G (S'.2.1 i) (S'.2.2 i) (I' i) = cellO G (S.2.1 i) (S.2.2 i) (I i)) :
    wsO G S I ++ [(gB G + S.1, cellO G (S'.2.1 S.1) (S'.2.2 S.1) (I' S.1))] = wsO G S' I' := by
  apply List.ext_getElem?
  intro i
  have hlen : (wsO G S I).length = S.1 := by simp [wsO]
  by_cases hi : i < S.1
  · rw [wsO_at (S := S') (by omega), List.getElem?_append_left (by omega), wsO_at hi, ho i hi]
  · by_cases hi2 : i = S.1
    · subst hi2
      rw [wsO_at (S := S') (by omega), List.getElem?_append_right (by omega), hlen, Nat.sub_self]
      rfl
    · rw [List.getElem?_eq_none (by simp [wsO]; omega), List.getElem?_eq_none (by simp [wsO]; omega)]
/-- the kinds' cells, unfolded -/
theorem cellO_obj {G : GX} {c n : Nat} (hc : c < 9) (P : Nat → Option Nat) (f : Nat → Int32) : cellO G (c, n) P f = .inr (c, (List.range (nFl c)).map (fldO G c P f)) := by
  unfold cellO
  rw [if_pos hc]
theorem cellO_int {G : GX} {c n : Nat} (h1 : 9 ≤ c) (h2 : c < 13) (P : Nat → Option Nat) (f : Nat → Int32) : cellO G (c, n) P f = .inl (gCy G c, n, .inl f) := by
  unfold cellO
  rw [if_neg (by show ¬ c < 9; omega), if_pos (by show c < 13; omega)]
theorem cellO_ref {G : GX} {c n : Nat} (h1 : 13 ≤ c) (P : Nat → Option Nat) (f : Nat → Int32) : cellO G (c, n) P f = .inl (gCy G c, n, .inr (.inr (.inr (.inr (fun j => (P j).map (gA G)))))) := by
  unfold cellO
  rw [if_neg (by show ¬ c < 9; omega), if_neg (by show ¬ c < 13; omega)]
/-- what lies elsewhere and never changes -/
def Xt (G : GX) (U : State) (H : Heap) : Prop :=
  (va_X (gXt G 0) (gN G) (gXs G) U H ∧ gXt G 0 < gB G) ∧
  va_Z "BeggarCorners$Kinds" "ABOVE" "[I" (.ref (gXt G 1)) (gF G) U H ∧
  va_T .int (gXt G 1) 6 (fun j => .int (([-1, 0, 0, 1, 2, 0] : List Int32).getD j 0)) (gF G) U H ∧
  va_Z "java/lang/String" "COMPACT_STRINGS" "Z" (.int 1) (gF G) U H ∧
  va_Z "jdk/internal/util/Preconditions" "SIOOBE_FORMATTER" "Ljava/util/function/BiFunction;" (em G (gFm G)) (gF G) U H ∧
  vk_S 6 [4, 3, 4, 3, 2, 2] [[97, 108, 109, 115], [102, 101, 101], [102, 105, 110, 101], [99, 103, 115], [99, 104], [112, 104]] (fun i => gXt G (2 + i)) (fun i => gXt G (8 + i)) (gF G) U H ∧
  (vk_R "BeggarCorners$Reader" 69 "alms" (gXt G 2) U ∧ vk_R "BeggarCorners$Reader" 71 "fee" (gXt G 3) U ∧ vk_R "BeggarCorners$Reader" 73 "fine" (gXt G 4) U ∧ vk_R "BeggarCorners$Reader" 75 "cgs" (gXt G 5) U ∧ vk_R "BeggarCorners$Reader" 77 "ch" (gXt G 6) U ∧ vk_R "BeggarCorners$Reader" 79 "ph" (gXt G 7) U) ∧
  (∃ w : Int32, gFm G = .int w) = False
theorem Xt.go {G : GX} {s U : State} {H H1 : Heap} (hW : s.WarmedH U.vm) (hq : ∀ a : Nat, a < gB G → H1[a]? = H[a]?) (hB : gB G ≤ H.size) (h : Xt G s H) : Xt G U H1 := by
  obtain ⟨⟨h1, h1'⟩, h2, h3, h4, h5, h6, ⟨r1, r2, r3, r4, r5, r6⟩, h8⟩ := h
  have hk : ∀ a : Nat, a < H.size → ¬ gF G a → H1[a]? = H[a]? := fun a _ h => hq a (Nat.not_le.mp h)
  exact ⟨⟨(h1.moved hW.alike).kept (hq _ h1'), h1'⟩, (h2.moved hW.alike).kept hk, (h3.moved hW.alike).kept hk, (h4.moved hW.alike).kept hk, (h5.moved hW.alike).kept hk, (h6.moved hW.alike).kept hk, ⟨r1.warm hW, r2.warm hW, r3.warm hW, r4.warm hW, r5.warm hW, r6.warm hW⟩, h8⟩
def OkS (G : GX) (U : State) : Prop := va_K (gD G) vwCl (tyO G) U ∧ gB G ≤ U.heap.size ∧ Xt G U U.heap ∧ (∀ q ∈ nestL, va_Nw (.methodLinkNest q.1 q.2.1 q.2.2.1 q.2.2.2) U) ∧ va_AO RX3 U ∧ va_AO RX4 U ∧ va_AO RX7 U
theorem OkS.go {G : GX} {s U : State} {H : Heap} (hW : s.WarmedH U.vm) (hU : U.heap = H) (hz : s.heap.size ≤ H.size) (hq : ∀ a : Nat, a < gB G → H[a]? = s.heap[a]?) (h : OkS G s) : OkS G U := by
  subst hU
  exact ⟨h.1.moved hW.alike, Nat.le_trans h.2.1 hz, h.2.2.1.go hW hq h.2.1, fun q hq => (h.2.2.2.1 q hq).warmM hW, h.2.2.2.2.1.moved hW.alike, h.2.2.2.2.2.1.moved hW.alike, h.2.2.2.2.2.2.moved hW.alike⟩
/-- locals: what is known of them -/
def lh (G : GX) (arr : Array Slot) (nL : Nat) (ls : List (Option Value)) : Prop := arr.size = nL ∧ lv_wf arr ∧ ∀ (i : Nat) (v : Value), ls[i]? = some (some v) → arr[i]? = some (.val (em G v))
/-- a method's end -/
def QC (G : GX) (Q : Option Value → Shp → Mem → Prop) : Array Value → State → Outcome → State → Prop := fun _ st o t =>
  ∃ (r : Option Value) (S : Shp) (I : Mem), o = .returned (r.map (em G)) ∧ Q r S I ∧ Hp G S I t.heap ∧ st.heap.size ≤ t.heap.size ∧ ∀ q : Nat, q < gB G → t.heap[q]? = st.heap[q]?
def CX (G : GX) (own nm : String) (cc : ByteArray) (nL : Nat) (ret : Option FieldType) (d kc ks : Nat) (ls : List (Option Value)) (S : Shp) (I : Mem) (p : Program) (R : Room) (s : State) (m : MethodId) (args : Array Value) (meth : Method) (c : Code) (H : Heap) (locs : List Loc) (cells slots : Nat) (arr : Array Slot) : Prop :=
  p.tables.exec = Jvm.exec ∧ c.code = cc ∧ meth.sig.returnType = ret ∧ c.maxLocals = nL ∧ s.vm.findClass own = some m.cls ∧ meth.locks = false ∧ meth.name = nm ∧ (∀ w ∈ lw_g, w.before args s = true) ∧ OkS G s ∧ va_S (gF G) s.heap H locs ∧ Hp G S I H ∧ lh G arr nL ls ∧ (d ≤ R.frames ∧ 40 * d ≤ R.locals ∧ cells + kc ≤ R.cells ∧ slots + ks ≤ R.slots)
/-- from here the method comes to its end, and Q -/
def PW (G : GX) (own nm : String) (cc : ByteArray) (nL : Nat) (ret : Option FieldType) (d kc ks : Nat) (Q : Option Value → Shp → Mem → Prop) (pc : Nat) (ls : List (Option Value)) (st : List Value) (S : Shp) (I : Mem) : Prop :=
  ∀ (p : Program) (e : Env) (R : Room) (s : State) (m : MethodId) (args : Array Value) (below : List Frame) (meth : Method) (c : Code) (H : Heap) (locs : List Loc) (cells slots : Nat) (arr : Array Slot),
    CX G own nm cc nL ret d kc ks ls S I p R s m args meth c H locs cells slots arr →
    W p G.1 e R s m args below meth c H locs cells slots (MQ below (QC G Q) args s (cells + kc) (slots + ks) (gF G)) (F0 m pc arr (st.map (em G)))
/-- a contract -/
def PM (G : GX) (y : MethodName) (cc : ByteArray) (nL : Nat) (ret : Option FieldType) (d kc ks : Nat) (as : List Value) (S : Shp) (I : Mem) (Q : Option Value → Shp → Mem → Prop) : Prop :=
  Met G.1 y (Cond.code y cc nL ret :: lw_g) { frames := d, cells := kc, slots := ks, locals := 40 * d } (fun v U => v = (as.map (em G)).toArray ∧ OkS G U ∧ Hp G S I U.heap) (QC G Q) kc ks (gF G)
theorem PM.of {G : GX} {y : MethodName} {cc : ByteArray} {nL : Nat} {ret : Option FieldType} {d kc ks : Nat} {as : List Value} {S : Shp} {I : Mem} {Q : Option Value → Shp → Mem → Prop} {ls : List (Option Value)}
    (hy : plainName y.cls = true) (hc : as.all (fun v => v.category == 1) = true) (hn : as.length ≤ nL) (hls : as.map some ++ List.replicate (nL - as.length) none = ls) (h : PW G y.cls y.name cc nL ret d kc ks Q 0 ls [] S I) : PM G y cc nL ret d kc ks as S I Q := by
  refine Met.ofW (cc := cc) (maxL := nL) (ret := ret) hy rfl ?_
  intro p e s m args below meth c s₁ B hml hv
  obtain ⟨rfl, hO, hH⟩ := hv
  have hts := atoms_spec (ws := Cond.code y cc nL ret :: lw_g) B.pre
  have hown : s.vm.findClass y.cls = some m.cls := findClass_of_methodNamed B.named
  have hnm : meth.name = y.name := (name_of_methodNamed B.named B.method).1
  have hcat : ∀ v ∈ as.map (em G), v.category = 1 := by
    intro v hv
    obtain ⟨w, hw, rfl⟩ := List.mem_map.mp hv
    rw [em_cat]
    have := List.all_eq_true.mp hc w hw
    simpa using this
  rw [entry_eq m (as.map (em G)) hcat nL]
  have key : ∀ i : Nat, (((as.map (em G)).map Slot.val ++ List.replicate (nL - (as.map (em G)).length) Slot.unset).toArray)[i]? = if i < as.length then (as[i]?).map (fun v => Slot.val (em G v)) else if i < nL then some .unset else none := by
    intro i
    rw [List.getElem?_toArray]
    by_cases hi : i < as.length
    · rw [if_pos hi, List.getElem?_append_left (by simpa using hi), List.getElem?_map, List.getElem?_map, Option.map_map]
      rfl
    · rw [if_neg hi, List.getElem?_append_right (by simpa using Nat.le_of_not_lt hi)]
      simp only [List.length_map]
      by_cases hi2 : i < nL
      · rw [if_pos hi2, List.getElem?_replicate, if_pos (by omega)]
      · rw [if_neg hi2, List.getElem?_replicate, if_neg (by omega)]
  have hl : lh G (((as.map (em G)).map Slot.val ++ List.replicate (nL - (as.map (em G)).length) Slot.unset).toArray) nL ls := by
    refine ⟨by simp; omega, ⟨fun i v hi hv => ?_, fun i hi => ?_⟩, fun i v hi => ?_⟩
    · rw [key] at hi
      exfalso
      split at hi
      · cases hq : as[i]? with
        | none => rw [hq] at hi; cases hi
        | some w =>
          rw [hq] at hi
          have e1 : Slot.val (em G w) = Slot.val v := Option.some.inj hi
          have e2 : em G w = v := Slot.val.inj e1
          have := hcat (em G w) (List.mem_map.mpr ⟨w, List.mem_of_getElem? hq, rfl⟩)
          rw [e2] at this
          omega
      · split at hi <;> cases hi
    · rw [key] at hi
      exfalso
      split at hi
      · cases hq : as[i]? with
        | none => rw [hq] at hi; cases hi
        | some w => rw [hq] at hi; cases hi
      · split at hi <;> cases hi
    · rw [key]
      rw [← hls] at hi
      by_cases hil : i < as.length
      · rw [List.getElem?_append_left (by simpa using hil), List.getElem?_map] at hi
        rw [if_pos hil]
        cases hq : as[i]? with
        | none => rw [hq] at hi; cases hi
        | some w =>
          rw [hq] at hi
          have : w = v := Option.some.inj (Option.some.inj hi)
          rw [this]
          rfl
      · rw [List.getElem?_append_right (by simpa using Nat.le_of_not_lt hil), List.getElem?_replicate] at hi
        split at hi
        · cases Option.some.inj hi
        · cases hi
  have hw := h p e (headSpec (Cond.code y cc nL ret :: lw_g) { frames := d, cells := kc, slots := ks, locals := 40 * d }).room s m _ below meth c s.heap [] 0 0 _
    ⟨B.exec, B.bytes, B.returns, hml, hown, B.notSynchronized, hnm, fun w hw => hts w (List.mem_cons_of_mem _ hw), hO, va_S.rf, hH, hl, Nat.le_refl _, Nat.le_refl _, by show 0 + kc ≤ kc; omega, by show 0 + ks ≤ ks; omega⟩
  rw [Nat.zero_add, Nat.zero_add] at hw
  exact hw
