/-! ===== the world that the law begins in ===== -/
theorem sb_forget {s t : State} {o : Outcome} {L : List Loc} {k n : Nat} (h : FrameEnd s o t L k n) (hL : ∀ q ∈ L, s.heap.size ≤ q.base) : Framed s o t [] k n := by
  obtain ⟨a, b, c1, c2, c3, c4, c5, c6⟩ := h
  refine ⟨a, b, c1, c2, c3, c4, c5, fun x c hx => ?_⟩
  obtain ⟨c', d1, d2, d3, d4⟩ := c6 x c hx
  exact ⟨c', d1, d2, d3, fun i _ => d4 i (fun hm => by
    have z : s.heap.size ≤ x := hL _ hm
    have y : x < s.heap.size := (Array.getElem?_eq_some_iff.mp hx).1
    exact absurd y (Nat.not_lt.mpr z))⟩
theorem ar_p {s : State} {args : Array Value} {ty : FieldType} (h : (Cond.arrayClass ty).before args s = true) : ∃ cA : ClassId, ArrOfT s cA ty ∧ s.vm.findClass ("[" ++ ty.toString) = some cA := by
  obtain ⟨c, k, comp, h1, h2, h3⟩ := Cond.arrayClass_spec h
  exact ⟨c, fun n z => ⟨fun k h => (by cases h), k, h2, comp, h3⟩, h1⟩
theorem ar_o {s : State} {C : String} (h : va_AO C s) : ∃ cA : ClassId, ArrOfT s cA (.object C) ∧ va_RA s cA (.object C) := by
  obtain ⟨comp, c, k, h1, h2, h3, h4, h5⟩ := Cond.arrayOver_spec h
  exact ⟨c, fun n z => ⟨fun k h => (by cases h), k, h3, comp, h4⟩, k, comp, h3, h4, h1, h5⟩
theorem ao_3 : Cond.arrayOver (.object RX3) ∈ lw_tbl := List.mem_append_right _ (List.mem_of_getElem? (i := 159) (by decide +kernel))
theorem ao_4 : Cond.arrayOver (.object RX4) ∈ lw_tbl := List.mem_append_right _ (List.mem_of_getElem? (i := 161) (by decide +kernel))
theorem ao_7 : Cond.arrayOver (.object RX7) ∈ lw_tbl := List.mem_append_right _ (List.mem_of_getElem? (i := 144) (by decide +kernel))
theorem nl_all : ∀ q ∈ nestL, Cond.methodLinkNest q.1 q.2.1 q.2.2.1 q.2.2.2 ∈ lw_tbl := by decide +kernel
theorem w_K {s : State} {args : Array Value} (hts : ∀ w ∈ lw_tbl, w.before args s = true) : ∃ (D : va_G) (cy : Nat → ClassId), ∀ (l : Launch) (bs : Nat) (xt : Nat → Nat) (n : Nat) (xs : Nat → Int32) (fm : Value), va_K D vwCl (tyO (l, D, cy, bs, xt, n, xs, fm)) s := by
  have htg : ∀ w ∈ lw_g, w.before args s = true := fun w hw => hts w (List.mem_filter.mp hw).1
  obtain ⟨c0, i0, k0⟩ := u_known htg uw_0 (hts _ tw_146)
  obtain ⟨c1, i1, k1⟩ := u_known htg uw_1 (hts _ tw_92)
  obtain ⟨c2, i2, k2⟩ := u_known htg uw_2 (hts _ tw_162)
  obtain ⟨c3, i3, k3⟩ := u_known htg uw_3 (hts _ tw_180)
  obtain ⟨c4, i4, k4⟩ := u_known htg uw_4 (hts _ tw_28)
  obtain ⟨c5, i5, k5⟩ := u_known htg uw_5 (hts _ tw_98)
  obtain ⟨c6, i6, k6⟩ := u_known htg uw_6 (hts _ tw_695)
  obtain ⟨c7, i7, k7⟩ := u_known htg uw_7 (hts _ tw_20)
  obtain ⟨c8, i8, k8⟩ := u_known htg uw_8 (hts _ tw_822)
  obtain ⟨a9, p9, q9⟩ := ar_p (hts _ ac_int)
  obtain ⟨a10, p10, q10⟩ := ar_p (hts _ ac_byte)
  obtain ⟨a11, p11, q11⟩ := ar_p (hts _ ac_boolean)
  obtain ⟨a12, p12, q12⟩ := ar_p (hts _ ac_char)
  obtain ⟨a13, p13, q13⟩ := ar_o (va_AO.of (hts _ ao_3))
  obtain ⟨a14, p14, q14⟩ := ar_o (va_AO.of (hts _ ao_4))
  obtain ⟨a15, p15, q15⟩ := ar_o (va_AO.of (hts _ ao_7))
  refine ⟨(fun k => ([c0, c1, c2, c3, c4, c5, c6, c7, c8] : List ClassId).getD k c0, fun k => ([i0, i1, i2, i3, i4, i5, i6, i7, i8] : List (Nat → Nat)).getD k i0), fun k => ([a9, a10, a11, a12, a13, a14, a15] : List ClassId).getD (k - 9) a9, fun l bs xt n xs fm => ⟨fun k q hq => ?_, fun k q hq => ?_⟩⟩
  · match k, hq with
    | 0, hq => cases hq; exact k0
    | 1, hq => cases hq; exact k1
    | 2, hq => cases hq; exact k2
    | 3, hq => cases hq; exact k3
    | 4, hq => cases hq; exact k4
    | 5, hq => cases hq; exact k5
    | 6, hq => cases hq; exact k6
    | 7, hq => cases hq; exact k7
    | 8, hq => cases hq; exact k8
    | k + 9, hq =>
      have z : k + 9 < 9 := (List.getElem?_eq_some_iff.mp hq).1
      omega
  · match k, hq with
    | 0, hq => obtain rfl := Option.some.inj hq; exact ⟨p9, q9⟩
    | 1, hq => obtain rfl := Option.some.inj hq; exact ⟨p10, q10⟩
    | 2, hq => obtain rfl := Option.some.inj hq; exact ⟨p11, q11⟩
    | 3, hq => obtain rfl := Option.some.inj hq; exact ⟨p12, q12⟩
    | 4, hq => obtain rfl := Option.some.inj hq; exact ⟨p13, q13⟩
    | 5, hq => obtain rfl := Option.some.inj hq; exact ⟨p14, q14⟩
    | 6, hq => obtain rfl := Option.some.inj hq; exact ⟨p15, q15⟩
    | k + 7, hq =>
      have z : k + 7 < 7 := (List.getElem?_eq_some_iff.mp hq).1
      omega
theorem w_fm {s : State} {args : Array Value} (hts : ∀ w ∈ lw_tbl, w.before args s = true) (hg : ∀ w ∈ flatC (Cond.and given_1 narrow_1), w.before args s = true) : ∃ (fm : Value) (t : Nat), fm.category = 1 ∧ (¬ ∃ w : Int32, fm = .int w) ∧ ((fm = .null ∧ va_Z "jdk/internal/util/Preconditions" "SIOOBE_FORMATTER" "Ljava/util/function/BiFunction;" .null (fun q => s.heap.size ≤ q) s s.heap) ∨ (fm = .ref (1000000 + 14) ∧ va_Z "jdk/internal/util/Preconditions" "SIOOBE_FORMATTER" "Ljava/util/function/BiFunction;" (.ref t) (fun q => s.heap.size ≤ q) s s.heap)) := by
  have h := va_Zqof (args := args) (s := s) (C := "jdk/internal/util/Preconditions") (n := "SIOOBE_FORMATTER") (d := "Ljava/util/function/BiFunction;") (A := fun q => s.heap.size ≤ q) (hts _ (List.mem_append_right _ (List.mem_of_getElem? (i := 570) (by decide +kernel)))) (hts _ (List.mem_append_right _ (List.mem_of_getElem? (i := 16) (by decide +kernel)))) (hg _ (by decide +kernel)) (fun a h => Nat.not_le.mpr h)
  rcases h with h | ⟨t, h⟩
  · exact ⟨.null, 0, rfl, fun ⟨w, z⟩ => (by cases z), Or.inl ⟨rfl, h⟩⟩
  · exact ⟨.ref (1000000 + 14), t, rfl, fun ⟨w, z⟩ => (by cases z), Or.inr ⟨rfl, h⟩⟩
theorem w_S {s : State} {args : Array Value} (hg : ∀ w ∈ flatC (Cond.and given_1 narrow_1), w.before args s = true) : ∃ adK adV : Nat → Nat, vk_S 6 [4, 3, 4, 3, 2, 2] [[97, 108, 109, 115], [102, 101, 101], [102, 105, 110, 101], [99, 103, 115], [99, 104], [112, 104]] adK adV (fun q => s.heap.size ≤ q) s s.heap ∧ ∀ i : Nat, i < 6 → (Term.string "BeggarCorners$Reader" (69 + 2 * i)).eval args s none [] s = some (.ref (adK i)) := by
  refine vk_Sof (tm := fun i => Term.string "BeggarCorners$Reader" (69 + 2 * i)) (by decide +kernel) (fun i hi => hg _ ?_) (fun i hi => hg _ ?_) (fun i hi => hg _ ?_) (fun i hi => hg _ ?_) (fun i hi j hj => hg _ ?_) (fun i j hi hj hne => ?_) (fun a h => Nat.not_le.mpr h)
  · exact (by decide +kernel : ∀ i, i < 6 → Cond.exactly (Term.string "BeggarCorners$Reader" (69 + 2 * i)) "java/lang/String" ∈ flatC (Cond.and given_1 narrow_1)) i hi
  · exact (by decide +kernel : ∀ i, i < 6 → Cond.eq (.field (Term.string "BeggarCorners$Reader" (69 + 2 * i)) "java/lang/String" "coder" "B") (.int 0) ∈ flatC (Cond.and given_1 narrow_1)) i hi
  · exact (by decide +kernel : ∀ i, i < 6 → Cond.arrayOf (.field (Term.string "BeggarCorners$Reader" (69 + 2 * i)) "java/lang/String" "value" "[B") .byte ∈ flatC (Cond.and given_1 narrow_1)) i hi
  · exact (by decide +kernel : ∀ i, i < 6 → Cond.eq (.length (.field (Term.string "BeggarCorners$Reader" (69 + 2 * i)) "java/lang/String" "value" "[B")) (.int (Int32.ofNat (([4, 3, 4, 3, 2, 2] : List Nat).getD i 0))) ∈ flatC (Cond.and given_1 narrow_1)) i hi
  · exact (by decide +kernel : ∀ i, i < 6 → ∀ j, j < ([4, 3, 4, 3, 2, 2] : List Nat).getD i 0 → Cond.eq (.elem (.field (Term.string "BeggarCorners$Reader" (69 + 2 * i)) "java/lang/String" "value" "[B") (.int (Int32.ofNat j))) (.int ((([[97, 108, 109, 115], [102, 101, 101], [102, 105, 110, 101], [99, 103, 115], [99, 104], [112, 104]] : List (List Int32)).getD i []).getD j 0)) ∈ flatC (Cond.and given_1 narrow_1)) i hi j hj
  · rcases (by decide +kernel : ∀ i, i < 6 → ∀ j, j < 6 → i = j ∨ Cond.not (Cond.eq (Term.string "BeggarCorners$Reader" (69 + 2 * i)) (Term.string "BeggarCorners$Reader" (69 + 2 * j))) ∈ flatC (Cond.and given_1 narrow_1) ∨ Cond.not (Cond.eq (Term.string "BeggarCorners$Reader" (69 + 2 * j)) (Term.string "BeggarCorners$Reader" (69 + 2 * i))) ∈ flatC (Cond.and given_1 narrow_1)) i hi j hj with h | h | h
    · exact absurd h hne
    · exact Or.inl (hg _ h)
    · exact Or.inr (hg _ h)
theorem w_ab {s : State} {args : Array Value} (hg : ∀ w ∈ flatC (Cond.and given_1 narrow_1), w.before args s = true) : ∃ t : Nat, (Term.static "BeggarCorners$Kinds" "ABOVE" "[I").eval args s none [] s = some (.ref t) ∧ va_T .int t 6 (fun j => .int (([-1, 0, 0, 1, 2, 0] : List Int32).getD j 0)) (fun q => s.heap.size ≤ q) s s.heap := by
  refine va_Tof (by decide) (hg _ (by decide +kernel)) (va_eqt (hg _ (by decide +kernel))) (fun j hj => va_eqt (hg _ ?_)) (fun a h => Nat.not_le.mpr h)
  exact (by decide +kernel : ∀ j, j < 6 → Cond.eq (.elem (.static "BeggarCorners$Kinds" "ABOVE" "[I") (.int (Int32.ofNat j))) (.int (([-1, 0, 0, 1, 2, 0] : List Int32).getD j 0)) ∈ flatC (Cond.and given_1 narrow_1)) j hj
theorem w_start {s : State} {b L : Nat} {xs : Nat → Int32} (l : Launch) (hts : ∀ w ∈ lw_tbl, w.before #[Value.ref b] s = true) (hgv : (Cond.and given_1 narrow_1).before #[Value.ref b] s = true) (hX : va_X b L xs s s.heap) (hbl : b < s.heap.size) : ∃ G : GX, G.1 = l ∧ gB G = s.heap.size ∧ gXt G 0 = b ∧ gN G = L ∧ (gFm G).category = 1 ∧ OkS G s := by
  have hg := flat_of_before _ hgv
  obtain ⟨D, cy, hK⟩ := w_K hts
  obtain ⟨ab, hab, hT⟩ := w_ab hg
  obtain ⟨adK, adV, hS, hE⟩ := w_S hg
  obtain ⟨fm, tf, f1, f2, f3⟩ := w_fm hts hg
  obtain ⟨xt, x0, x1, xK, xV, xF⟩ : ∃ xt : Nat → Nat, xt 0 = b ∧ xt 1 = ab ∧ (∀ i, i < 6 → xt (2 + i) = adK i) ∧ (∀ i, i < 6 → xt (8 + i) = adV i) ∧ xt 14 = tf := by
    refine ⟨fun k => if k = 0 then b else if k = 1 then ab else if k < 8 then adK (k - 2) else if k < 14 then adV (k - 8) else tf, rfl, rfl, fun i hi => ?_, fun i hi => ?_, rfl⟩
    · show (if 2 + i = 0 then b else if 2 + i = 1 then ab else if 2 + i < 8 then adK (2 + i - 2) else _) = _
      rw [if_neg (by omega), if_neg (by omega), if_pos (by omega), Nat.add_sub_cancel_left]
    · show (if 8 + i = 0 then b else if 8 + i = 1 then ab else if 8 + i < 8 then _ else if 8 + i < 14 then adV (8 + i - 8) else _) = _
      rw [if_neg (by omega), if_neg (by omega), if_neg (by omega), if_pos (by omega), Nat.add_sub_cancel_left]
  have hA : ∀ a : Nat, a < s.heap.size → ¬ (fun q : Nat => s.heap.size ≤ q) a := fun a h => Nat.not_le.mpr h
  have vr : ∀ (i : Nat) (tx : String), i < 6 → (Cond.stringRef "BeggarCorners$Reader" (69 + 2 * i) tx).before #[Value.ref b] s = true → vk_R "BeggarCorners$Reader" (69 + 2 * i) tx (xt (2 + i)) s := fun i tx hi h => by
    rw [xK i hi]
    exact vk_R.of h (hE i hi)
  refine ⟨(l, D, cy, s.heap.size, xt, L, xs, fm), rfl, rfl, x0, rfl, f1, hK l s.heap.size xt L xs fm, Nat.le_refl _, ⟨⟨?_, ?_⟩, ?_, ?_, ?_, ?_, ?_, ⟨?_, ?_, ?_, ?_, ?_, ?_⟩, ?_⟩, fun q hq => va_Nw.of rfl (hts _ (nl_all q hq)), va_AO.of (hts _ ao_3), va_AO.of (hts _ ao_4), va_AO.of (hts _ ao_7)⟩
  · show va_X (xt 0) L xs s s.heap
    rw [x0]; exact hX
  · show xt 0 < s.heap.size
    rw [x0]; exact hbl
  · show va_Z _ _ _ (.ref (xt 1)) (fun q => s.heap.size ≤ q) s s.heap
    rw [x1]
    exact va_Zref (hts _ (List.mem_append_right _ (List.mem_of_getElem? (i := 341) (by decide +kernel)))) (hts _ (List.mem_append_right _ (List.mem_of_getElem? (i := 10) (by decide +kernel)))) hab hA
  · show va_T .int (xt 1) 6 _ (fun q => s.heap.size ≤ q) s s.heap
    rw [x1]; exact hT
  · exact va_Zof (hts _ (List.mem_append_right _ (List.mem_of_getElem? (i := 554) (by decide +kernel)))) (hts _ (List.mem_append_right _ (List.mem_of_getElem? (i := 14) (by decide +kernel)))) (va_eqt (hg _ (by decide +kernel))) hA
  · rcases f3 with ⟨rfl, h⟩ | ⟨rfl, h⟩
    · exact h
    · show va_Z _ _ _ (.ref (gA _ (1000000 + 14))) (fun q => s.heap.size ≤ q) s s.heap
      rw [gA_x]
      show va_Z _ _ _ (.ref (xt 14)) (fun q => s.heap.size ≤ q) s s.heap
      rw [xF]; exact h
  · refine ⟨fun i hi => ?_, fun i j hi hj h => hS.2 i j hi hj (by rw [← xK i hi, ← xK j hj]; exact h)⟩
    have z := hS.1 i hi
    rw [← xK i hi, ← xV i hi] at z
    exact z
  · exact vr 0 "alms" (by decide) (hts _ (List.mem_append_right _ (List.mem_of_getElem? (i := 538) (by decide +kernel))))
  · exact vr 1 "fee" (by decide) (hts _ (List.mem_append_right _ (List.mem_of_getElem? (i := 539) (by decide +kernel))))
  · exact vr 2 "fine" (by decide) (hts _ (List.mem_append_right _ (List.mem_of_getElem? (i := 540) (by decide +kernel))))
  · exact vr 3 "cgs" (by decide) (hts _ (List.mem_append_right _ (List.mem_of_getElem? (i := 624) (by decide +kernel))))
  · exact vr 4 "ch" (by decide) (hts _ (List.mem_append_right _ (List.mem_of_getElem? (i := 625) (by decide +kernel))))
  · exact vr 5 "ph" (by decide) (hts _ (List.mem_append_right _ (List.mem_of_getElem? (i := 626) (by decide +kernel))))
  · exact eq_false f2
theorem lh0 {G : GX} {b : Nat} {ls : Array Slot} (h : gXt G 0 = b) (hl : lv_has ls 4 [(0, .ref b)]) : lh G ls 4 [some (.ref 1000000), none, none, none] := by
  refine ⟨hl.1, hl.2.1, fun i v hv => ?_⟩
  match i, hv with
  | 0, hv =>
    cases hv
    show ls[0]? = some (.val (.ref (gA G (1000000 + 0))))
    rw [gA_x, h]
    exact hl.2.2 (0, .ref b) (List.mem_cons_self ..)
  | 1, hv => cases hv
  | 2, hv => cases hv
  | 3, hv => cases hv
  | i + 4, hv =>
    have z : i + 4 < 4 := (List.getElem?_eq_some_iff.mp hv).1
    omega

