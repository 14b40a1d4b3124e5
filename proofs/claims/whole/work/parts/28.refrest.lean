/-! the rest of the reference's private methods -/
def cpR (I : Mem) (f t n : Nat) : Mem := sR I t (fun j => if j < n then I f j else I t j)
theorem lp_X9_thinks {G : GX} {S : Shp} {I : Mem} {d : Nat} {Q : Option Value → Shp → Mem → Prop} (hsh : SHP S) : ∀ (k i : Nat) (f : Nat → Int32), i + k = 61 → (∀ j, j < i → f j = I 56 j) → (∀ j, 61 ≤ j → f j = I 59 j) → (∀ g : Nat → Int32, (∀ j, j < 61 → g j = I 56 j) → (∀ j, 61 ≤ j → g j = I 59 j) → Q none S (sR I 59 g)) → PW G RX9 "thinks" cX9_thinks 2 none d 0 0 Q 2 [some (.ref 55), some (.int (nI i))] [] S (sR I 59 f) := by
  intro k
  induction k with
  | zero =>
    intro i f hi h1 h2 hQ
    have hi : i = 61 := by omega
    subst hi
    refine P_iload1 (pc' := 3) dX9_thinks_2 rfl ?_
    refine P_bipush (pc' := 5) dX9_thinks_3 rfl (v := 61) rfl ?_
    refine P_icmp_ge (tgt := 26) (pc' := 8) dX9_thinks_5 rfl rfl (fun h5 => ?_) (fun h5 => ?_)
    · refine P_vret dX9_thinks_26 ?_
      exact hQ f h1 h2
    · exact absurd (by decide) h5
  | succ k ih =>
    intro i f hi h1 h2 hQ
    refine P_iload1 (pc' := 3) dX9_thinks_2 rfl ?_
    refine P_bipush (pc' := 5) dX9_thinks_3 rfl (v := 61) rfl ?_
    refine P_icmp_ge (tgt := 26) (pc' := 8) dX9_thinks_5 rfl rfl (fun h5 => ?_) (fun h5 => ?_)
    · exact absurd h5 (nI_ge (b := 61) (by omega) (by omega))
    · refine P_aload0 (pc' := 9) dX9_thinks_8 rfl ?_
      refine P_getr (pc' := 12) dX9_thinks_9 rfl fl_X9_19 rfl (l_55 hsh) (t_55 hsh) (q_55_4 hsh) ?_
      refine P_iload1 (pc' := 13) dX9_thinks_12 rfl ?_
      refine P_aload0 (pc' := 14) dX9_thinks_13 rfl ?_
      refine P_getr (pc' := 17) dX9_thinks_14 rfl fl_X9_9 rfl (l_55 hsh) (t_55 hsh) (q_55_0 hsh) ?_
      refine P_iload1 (pc' := 18) dX9_thinks_17 rfl ?_
      refine P_iald (pc' := 19) dX9_thinks_18 rfl (l_56 hsh) (t_56 hsh) (j := i) rfl (by omega) (by decide) ?_
      refine P_iast (pc' := 20) dX9_thinks_19 rfl (l_59 hsh) (t_59 hsh) (j := i) rfl (by omega) (by decide) ?_
      refine P_iinc1 (pc' := 23) dX9_thinks_20 rfl (nI_1 i) (by decide) rfl ?_
      refine P_goto (tgt := 2) dX9_thinks_23 rfl ?_
      rw [sR_u, sR_n (by decide)]
      exact ih (i + 1) _ (by omega) (fun j hj => by
        by_cases q : j = i
        · rw [q]; simp [upd]
        · simp only [upd, if_neg q]; exact h1 j (by omega)) (fun j hj => by simp only [upd, if_neg (show j ≠ i by omega)]; exact h2 j hj) hQ
theorem c_X9_thinks {G : GX} {S : Shp} {I : Mem} {d : Nat} (hsh : SHP S) : PM G yX9_thinks cX9_thinks 2 none d 0 0 [.ref 55] S I (Rv S (cpR I 56 59 61)) := by
  refine PM.of (ls := [some (.ref 55), none]) (by decide) rfl (Nat.le_of_ble_eq_true rfl) rfl ?_
  show PW G RX9 "thinks" _ _ _ _ _ _ _ _ _ _ _ _
  refine P_iconst (pc' := 1) dX9_thinks_0 rfl (v := 0) rfl ?_
  refine P_istore1 (pc' := 2) dX9_thinks_1 rfl (by decide) rfl ?_
  have h := lp_X9_thinks (G := G) (d := d) (I := I) (Q := Rv S (cpR I 56 59 61)) hsh 61 0 (I 59) (by omega) (fun j hj => by omega) (fun j hj => rfl) (fun g h1 h2 => ⟨rfl, rfl, by
    unfold cpR
    congr 1
    funext j
    by_cases q : j < 61
    · rw [if_pos q, h1 j q]
    · rw [if_neg q, h2 j (by omega)]⟩)
  rw [sR_self] at h
  exact h
theorem lp_X9_putsBack {G : GX} {S : Shp} {I : Mem} {d : Nat} {Q : Option Value → Shp → Mem → Prop} (hsh : SHP S) : ∀ (k i : Nat) (f : Nat → Int32), i + k = 61 → (∀ j, j < i → f j = I 59 j) → (∀ j, 61 ≤ j → f j = I 56 j) → (∀ g : Nat → Int32, (∀ j, j < 61 → g j = I 59 j) → (∀ j, 61 ≤ j → g j = I 56 j) → Q none S (sR I 56 g)) → PW G RX9 "putsBack" cX9_putsBack 2 none d 0 0 Q 2 [some (.ref 55), some (.int (nI i))] [] S (sR I 56 f) := by
  intro k
  induction k with
  | zero =>
    intro i f hi h1 h2 hQ
    have hi : i = 61 := by omega
    subst hi
    refine P_iload1 (pc' := 3) dX9_putsBack_2 rfl ?_
    refine P_bipush (pc' := 5) dX9_putsBack_3 rfl (v := 61) rfl ?_
    refine P_icmp_ge (tgt := 26) (pc' := 8) dX9_putsBack_5 rfl rfl (fun h5 => ?_) (fun h5 => ?_)
    · refine P_vret dX9_putsBack_26 ?_
      exact hQ f h1 h2
    · exact absurd (by decide) h5
  | succ k ih =>
    intro i f hi h1 h2 hQ
    refine P_iload1 (pc' := 3) dX9_putsBack_2 rfl ?_
    refine P_bipush (pc' := 5) dX9_putsBack_3 rfl (v := 61) rfl ?_
    refine P_icmp_ge (tgt := 26) (pc' := 8) dX9_putsBack_5 rfl rfl (fun h5 => ?_) (fun h5 => ?_)
    · exact absurd h5 (nI_ge (b := 61) (by omega) (by omega))
    · refine P_aload0 (pc' := 9) dX9_putsBack_8 rfl ?_
      refine P_getr (pc' := 12) dX9_putsBack_9 rfl fl_X9_9 rfl (l_55 hsh) (t_55 hsh) (q_55_0 hsh) ?_
      refine P_iload1 (pc' := 13) dX9_putsBack_12 rfl ?_
      refine P_aload0 (pc' := 14) dX9_putsBack_13 rfl ?_
      refine P_getr (pc' := 17) dX9_putsBack_14 rfl fl_X9_19 rfl (l_55 hsh) (t_55 hsh) (q_55_4 hsh) ?_
      refine P_iload1 (pc' := 18) dX9_putsBack_17 rfl ?_
      refine P_iald (pc' := 19) dX9_putsBack_18 rfl (l_59 hsh) (t_59 hsh) (j := i) rfl (by omega) (by decide) ?_
      refine P_iast (pc' := 20) dX9_putsBack_19 rfl (l_56 hsh) (t_56 hsh) (j := i) rfl (by omega) (by decide) ?_
      refine P_iinc1 (pc' := 23) dX9_putsBack_20 rfl (nI_1 i) (by decide) rfl ?_
      refine P_goto (tgt := 2) dX9_putsBack_23 rfl ?_
      rw [sR_u, sR_n (by decide)]
      exact ih (i + 1) _ (by omega) (fun j hj => by
        by_cases q : j = i
        · rw [q]; simp [upd]
        · simp only [upd, if_neg q]; exact h1 j (by omega)) (fun j hj => by simp only [upd, if_neg (show j ≠ i by omega)]; exact h2 j hj) hQ
theorem c_X9_putsBack {G : GX} {S : Shp} {I : Mem} {d : Nat} (hsh : SHP S) : PM G yX9_putsBack cX9_putsBack 2 none d 0 0 [.ref 55] S I (Rv S (cpR I 59 56 61)) := by
  refine PM.of (ls := [some (.ref 55), none]) (by decide) rfl (Nat.le_of_ble_eq_true rfl) rfl ?_
  show PW G RX9 "putsBack" _ _ _ _ _ _ _ _ _ _ _ _
  refine P_iconst (pc' := 1) dX9_putsBack_0 rfl (v := 0) rfl ?_
  refine P_istore1 (pc' := 2) dX9_putsBack_1 rfl (by decide) rfl ?_
  have h := lp_X9_putsBack (G := G) (d := d) (I := I) (Q := Rv S (cpR I 59 56 61)) hsh 61 0 (I 56) (by omega) (fun j hj => by omega) (fun j hj => rfl) (fun g h1 h2 => ⟨rfl, rfl, by
    unfold cpR
    congr 1
    funext j
    by_cases q : j < 61
    · rw [if_pos q, h1 j q]
    · rw [if_neg q, h2 j (by omega)]⟩)
  rw [sR_self] at h
  exact h
theorem lp_X9_copyAll {G : GX} {S : Shp} {I : Mem} {d a b : Nat} {Q : Option Value → Shp → Mem → Prop} (ha : a < S.1) (hta : S.2.1 a = (9, 1433)) (hb : b < S.1) (htb : S.2.1 b = (9, 1433)) (hab : a ≠ b) : ∀ (k i : Nat) (f : Nat → Int32), i + k = 1433 → (∀ j, j < i → f j = I a j) → (∀ j, 1433 ≤ j → f j = I b j) → (∀ g : Nat → Int32, (∀ j, j < 1433 → g j = I a j) → (∀ j, 1433 ≤ j → g j = I b j) → Q none S (sR I b g)) → PW G RX9 "copyAll" cX9_copyAll 3 none d 0 0 Q 2 [some (.ref a), some (.ref b), some (.int (nI i))] [] S (sR I b f) := by
  intro k
  induction k with
  | zero =>
    intro i f hi h1 h2 hQ
    have hi : i = 1433 := by omega
    subst hi
    refine P_iload2 (pc' := 3) dX9_copyAll_2 rfl ?_
    refine P_sipush (pc' := 6) dX9_copyAll_3 rfl (v := 1433) rfl ?_
    refine P_icmp_ge (tgt := 21) (pc' := 9) dX9_copyAll_6 rfl rfl (fun h6 => ?_) (fun h6 => ?_)
    · refine P_vret dX9_copyAll_21 ?_
      exact hQ f h1 h2
    · exact absurd (by decide) h6
  | succ k ih =>
    intro i f hi h1 h2 hQ
    refine P_iload2 (pc' := 3) dX9_copyAll_2 rfl ?_
    refine P_sipush (pc' := 6) dX9_copyAll_3 rfl (v := 1433) rfl ?_
    refine P_icmp_ge (tgt := 21) (pc' := 9) dX9_copyAll_6 rfl rfl (fun h6 => ?_) (fun h6 => ?_)
    · exact absurd h6 (nI_ge (b := 1433) (by omega) (by omega))
    · refine P_aload1 (pc' := 10) dX9_copyAll_9 rfl ?_
      refine P_iload2 (pc' := 11) dX9_copyAll_10 rfl ?_
      refine P_aload0 (pc' := 12) dX9_copyAll_11 rfl ?_
      refine P_iload2 (pc' := 13) dX9_copyAll_12 rfl ?_
      refine P_iald (pc' := 14) dX9_copyAll_13 rfl ha hta (j := i) rfl (by omega) (by decide) ?_
      refine P_iast (pc' := 15) dX9_copyAll_14 rfl hb htb (j := i) rfl (by omega) (by decide) ?_
      refine P_iinc2 (pc' := 18) dX9_copyAll_15 rfl (nI_1 i) (by decide) rfl ?_
      refine P_goto (tgt := 2) dX9_copyAll_18 rfl ?_
      rw [sR_u, sR_n hab]
      exact ih (i + 1) _ (by omega) (fun j hj => by
        by_cases q : j = i
        · rw [q]; simp [upd]
        · simp only [upd, if_neg q]; exact h1 j (by omega)) (fun j hj => by simp only [upd, if_neg (show j ≠ i by omega)]; exact h2 j hj) hQ
theorem c_X9_copyAll {G : GX} {S : Shp} {I : Mem} {d a b : Nat} (ha : a < S.1) (hta : S.2.1 a = (9, 1433)) (hb : b < S.1) (htb : S.2.1 b = (9, 1433)) (hab : a ≠ b) : PM G yX9_copyAll cX9_copyAll 3 none d 0 0 [.ref a, .ref b] S I (Rv S (cpR I a b 1433)) := by
  refine PM.of (ls := [some (.ref a), some (.ref b), none]) (by decide) rfl (Nat.le_of_ble_eq_true rfl) rfl ?_
  show PW G RX9 "copyAll" _ _ _ _ _ _ _ _ _ _ _ _
  refine P_iconst (pc' := 1) dX9_copyAll_0 rfl (v := 0) rfl ?_
  refine P_istore2 (pc' := 2) dX9_copyAll_1 rfl (by decide) rfl ?_
  have h := lp_X9_copyAll (G := G) (d := d) (I := I) (Q := Rv S (cpR I a b 1433)) ha hta hb htb hab 1433 0 (I b) (by omega) (fun j hj => by omega) (fun j hj => rfl) (fun g h1 h2 => ⟨rfl, rfl, by
    unfold cpR
    congr 1
    funext j
    by_cases q : j < 1433
    · rw [if_pos q, h1 j q]
    · rw [if_neg q, h2 j (by omega)]⟩)
  rw [sR_self] at h
  exact h
theorem c_X9_worthOf {G : GX} {S : Shp} {I : Mem} {d b : Nat} (hsh : SHP S) (hb : b < 9) (hk : isK (I 56 (16 + 5 * b))) (hd : 1 ≤ d) : PM G yX9_worthOf cX9_worthOf 3 (some .int) d 0 0 [.ref 55, .int (nI b)] S I (Rm S I (kWorth (I 56 (16 + 5 * b)) (I 56 (18 + 5 * b)))) := by
  refine PM.of (ls := [some (.ref 55), some (.int (nI b)), none]) (by decide) rfl (Nat.le_of_ble_eq_true rfl) rfl ?_
  show PW G RX9 "worthOf" _ _ _ _ _ _ _ _ _ _ _ _
  rw [show 18 + 5 * b = 16 + 5 * b + 2 by omega]
  obtain ⟨k, e0⟩ : ∃ k, I 56 (16 + 5 * b) = k := ⟨_, rfl⟩
  rw [e0] at hk ⊢
  refine P_aload0 (pc' := 1) dX9_worthOf_0 rfl ?_
  refine P_iload1 (pc' := 2) dX9_worthOf_1 rfl ?_
  refine P_iconst (pc' := 3) dX9_worthOf_2 rfl (v := 2) rfl ?_
  refine P_callV2 (pc' := 6) dX9_worthOf_3 rfl lk_X9_89 (l_55 hsh) (t_55 hsh) (c_X9_of (k := 2) (d := 0) hsh hb (by decide)) (by omega) (Nat.le_of_ble_eq_true rfl) (fun r S' I' hq => ?_)
  obtain ⟨rfl, rfl, rfl⟩ := hq
  refine P_istore2 (pc' := 7) dX9_worthOf_6 rfl (by decide) rfl ?_
  refine P_aload0 (pc' := 8) dX9_worthOf_7 rfl ?_
  refine P_iload1 (pc' := 9) dX9_worthOf_8 rfl ?_
  refine P_iconst (pc' := 10) dX9_worthOf_9 rfl (v := 0) rfl ?_
  refine P_callV2 (pc' := 13) dX9_worthOf_10 rfl lk_X9_89 (l_55 hsh) (t_55 hsh) (c_X9_of (k := 0) (d := 0) hsh hb (by decide)) (by omega) (Nat.le_of_ble_eq_true rfl) (fun r S' I' hq => ?_)
  obtain ⟨rfl, rfl, rfl⟩ := hq
  refine P_as e0 ?_
  rcases hk with rfl | rfl | rfl | rfl | rfl | rfl
  · skip
    refine P_tabOut (tgt := 72) dX9_worthOf_13 (by decide) rfl ?_
    refine P_iload2 (pc' := 73) dX9_worthOf_72 rfl ?_
    refine P_iret dX9_worthOf_73 ?_
    exact ⟨by simp [kWorth], rfl, rfl⟩
  · skip
    refine P_tabIn (tgt := 48) dX9_worthOf_13 (by decide) (by decide) rfl rfl ?_
    refine P_iload2 (pc' := 49) dX9_worthOf_48 rfl ?_
    refine P_bipush (pc' := 51) dX9_worthOf_49 rfl (v := 6) rfl ?_
    refine P_iadd (pc' := 52) dX9_worthOf_51 rfl ?_
    refine P_iret dX9_worthOf_52 ?_
    exact ⟨by simp [kWorth], rfl, rfl⟩
  · skip
    refine P_tabIn (tgt := 53) dX9_worthOf_13 (by decide) (by decide) rfl rfl ?_
    refine P_bipush (pc' := 55) dX9_worthOf_53 rfl (v := 99) rfl ?_
    refine P_iload2 (pc' := 56) dX9_worthOf_55 rfl ?_
    refine P_isub (pc' := 57) dX9_worthOf_56 rfl ?_
    refine P_iret dX9_worthOf_57 ?_
    exact ⟨by simp [kWorth], rfl, rfl⟩
  · skip
    refine P_tabIn (tgt := 58) dX9_worthOf_13 (by decide) (by decide) rfl rfl ?_
    refine P_iconst (pc' := 59) dX9_worthOf_58 rfl (v := 2) rfl ?_
    refine P_iload2 (pc' := 60) dX9_worthOf_59 rfl ?_
    refine P_bipush (pc' := 62) dX9_worthOf_60 rfl (v := 6) rfl ?_
    refine P_iadd (pc' := 63) dX9_worthOf_62 rfl ?_
    refine P_imul (pc' := 64) dX9_worthOf_63 rfl ?_
    refine P_iret dX9_worthOf_64 ?_
    exact ⟨by simp [kWorth], rfl, rfl⟩
  · skip
    refine P_tabIn (tgt := 65) dX9_worthOf_13 (by decide) (by decide) rfl rfl ?_
    refine P_bipush (pc' := 67) dX9_worthOf_65 rfl (v := 91) rfl ?_
    refine P_iload2 (pc' := 68) dX9_worthOf_67 rfl ?_
    refine P_isub (pc' := 69) dX9_worthOf_68 rfl ?_
    refine P_iret dX9_worthOf_69 ?_
    exact ⟨by simp [kWorth]; try (rw [show (91 : Int32) = 99 - 8 from rfl, Int32.sub_sub, Int32.sub_sub, Int32.add_comm 8]), rfl, rfl⟩
  · skip
    refine P_tabIn (tgt := 70) dX9_worthOf_13 (by decide) (by decide) rfl rfl ?_
    refine P_iconst (pc' := 71) dX9_worthOf_70 rfl (v := 5) rfl ?_
    refine P_iret dX9_worthOf_71 ?_
    exact ⟨by simp [kWorth], rfl, rfl⟩
def unF (k o : Int32) : Int32 := if o = 0 then 1 else if k = o then 1 else if o = 1 ∧ k = 3 then 1 else if o = 2 ∧ k = 4 then 1 else 0
theorem c_X9_isUnder {G : GX} {S : Shp} {I : Mem} {d : Nat} (k o : Int32) : PM G yX9_isUnder cX9_isUnder 2 (some .boolean) d 0 0 [.int k, .int o] S I (Rm S I (unF k o)) := by
  refine PM.of (ls := [some (.int k), some (.int o)]) (by decide) rfl (Nat.le_of_ble_eq_true rfl) rfl ?_
  show PW G RX9 "isUnder" _ _ _ _ _ _ _ _ _ _ _ _
  refine P_iload1 (pc' := 1) dX9_isUnder_0 rfl ?_
  refine P_if_eq (tgt := 29) (pc' := 4) dX9_isUnder_1 rfl rfl (fun h1 => ?_) (fun h1 => ?_)
  · refine P_iconst (pc' := 30) dX9_isUnder_29 rfl (v := 1) rfl ?_
    refine P_goto (tgt := 34) dX9_isUnder_30 rfl ?_
    refine P_zret dX9_isUnder_34 (by first | exact Or.inl rfl | exact Or.inr rfl) ?_
    first
      | exact absurd (h11.symm.trans h21) (by decide)
      | (refine ⟨?_, rfl, rfl⟩; simp [unF, *]; done)
      | (refine ⟨?_, rfl, rfl⟩; subst h11; simp [unF, h16, h6]; done)
      | (refine ⟨?_, rfl, rfl⟩; subst h21; simp [unF, h26, h6]; done)
  · refine P_iload0 (pc' := 5) dX9_isUnder_4 rfl ?_
    refine P_iload1 (pc' := 6) dX9_isUnder_5 rfl ?_
    refine P_icmp_eq (tgt := 29) (pc' := 9) dX9_isUnder_6 rfl rfl (fun h6 => ?_) (fun h6 => ?_)
    · refine P_iconst (pc' := 30) dX9_isUnder_29 rfl (v := 1) rfl ?_
      refine P_goto (tgt := 34) dX9_isUnder_30 rfl ?_
      refine P_zret dX9_isUnder_34 (by first | exact Or.inl rfl | exact Or.inr rfl) ?_
      first
        | exact absurd (h11.symm.trans h21) (by decide)
        | (refine ⟨?_, rfl, rfl⟩; simp [unF, *]; done)
        | (refine ⟨?_, rfl, rfl⟩; subst h11; simp [unF, h16, h6]; done)
        | (refine ⟨?_, rfl, rfl⟩; subst h21; simp [unF, h26, h6]; done)
    · refine P_iload1 (pc' := 10) dX9_isUnder_9 rfl ?_
      refine P_iconst (pc' := 11) dX9_isUnder_10 rfl (v := 1) rfl ?_
      refine P_icmp_ne (tgt := 19) (pc' := 14) dX9_isUnder_11 rfl rfl (fun h11 => ?_) (fun h11 => ?_)
      · refine P_iload1 (pc' := 20) dX9_isUnder_19 rfl ?_
        refine P_iconst (pc' := 21) dX9_isUnder_20 rfl (v := 2) rfl ?_
        refine P_icmp_ne (tgt := 33) (pc' := 24) dX9_isUnder_21 rfl rfl (fun h21 => ?_) (fun h21 => ?_)
        · refine P_iconst (pc' := 34) dX9_isUnder_33 rfl (v := 0) rfl ?_
          refine P_zret dX9_isUnder_34 (by first | exact Or.inl rfl | exact Or.inr rfl) ?_
          first
            | exact absurd (h11.symm.trans h21) (by decide)
            | (refine ⟨?_, rfl, rfl⟩; simp [unF, *]; done)
            | (refine ⟨?_, rfl, rfl⟩; subst h11; simp [unF, h16, h6]; done)
            | (refine ⟨?_, rfl, rfl⟩; subst h21; simp [unF, h26, h6]; done)
        · refine P_iload0 (pc' := 25) dX9_isUnder_24 rfl ?_
          refine P_iconst (pc' := 26) dX9_isUnder_25 rfl (v := 4) rfl ?_
          refine P_icmp_ne (tgt := 33) (pc' := 29) dX9_isUnder_26 rfl rfl (fun h26 => ?_) (fun h26 => ?_)
          · refine P_iconst (pc' := 34) dX9_isUnder_33 rfl (v := 0) rfl ?_
            refine P_zret dX9_isUnder_34 (by first | exact Or.inl rfl | exact Or.inr rfl) ?_
            first
              | exact absurd (h11.symm.trans h21) (by decide)
              | (refine ⟨?_, rfl, rfl⟩; simp [unF, *]; done)
              | (refine ⟨?_, rfl, rfl⟩; subst h11; simp [unF, h16, h6]; done)
              | (refine ⟨?_, rfl, rfl⟩; subst h21; simp [unF, h26, h6]; done)
          · refine P_iconst (pc' := 30) dX9_isUnder_29 rfl (v := 1) rfl ?_
            refine P_goto (tgt := 34) dX9_isUnder_30 rfl ?_
            refine P_zret dX9_isUnder_34 (by first | exact Or.inl rfl | exact Or.inr rfl) ?_
            first
              | exact absurd (h11.symm.trans h21) (by decide)
              | (refine ⟨?_, rfl, rfl⟩; simp [unF, *]; done)
              | (refine ⟨?_, rfl, rfl⟩; subst h11; simp [unF, h16, h6]; done)
              | (refine ⟨?_, rfl, rfl⟩; subst h21; simp [unF, h26, h6]; done)
      · refine P_iload0 (pc' := 15) dX9_isUnder_14 rfl ?_
        refine P_iconst (pc' := 16) dX9_isUnder_15 rfl (v := 3) rfl ?_
        refine P_icmp_eq (tgt := 29) (pc' := 19) dX9_isUnder_16 rfl rfl (fun h16 => ?_) (fun h16 => ?_)
        · refine P_iconst (pc' := 30) dX9_isUnder_29 rfl (v := 1) rfl ?_
          refine P_goto (tgt := 34) dX9_isUnder_30 rfl ?_
          refine P_zret dX9_isUnder_34 (by first | exact Or.inl rfl | exact Or.inr rfl) ?_
          first
            | exact absurd (h11.symm.trans h21) (by decide)
            | (refine ⟨?_, rfl, rfl⟩; simp [unF, *]; done)
            | (refine ⟨?_, rfl, rfl⟩; subst h11; simp [unF, h16, h6]; done)
            | (refine ⟨?_, rfl, rfl⟩; subst h21; simp [unF, h26, h6]; done)
        · refine P_iload1 (pc' := 20) dX9_isUnder_19 rfl ?_
          refine P_iconst (pc' := 21) dX9_isUnder_20 rfl (v := 2) rfl ?_
          refine P_icmp_ne (tgt := 33) (pc' := 24) dX9_isUnder_21 rfl rfl (fun h21 => ?_) (fun h21 => ?_)
          · refine P_iconst (pc' := 34) dX9_isUnder_33 rfl (v := 0) rfl ?_
            refine P_zret dX9_isUnder_34 (by first | exact Or.inl rfl | exact Or.inr rfl) ?_
            first
              | exact absurd (h11.symm.trans h21) (by decide)
              | (refine ⟨?_, rfl, rfl⟩; simp [unF, *]; done)
              | (refine ⟨?_, rfl, rfl⟩; subst h11; simp [unF, h16, h6]; done)
              | (refine ⟨?_, rfl, rfl⟩; subst h21; simp [unF, h26, h6]; done)
          · refine P_iload0 (pc' := 25) dX9_isUnder_24 rfl ?_
            refine P_iconst (pc' := 26) dX9_isUnder_25 rfl (v := 4) rfl ?_
            refine P_icmp_ne (tgt := 33) (pc' := 29) dX9_isUnder_26 rfl rfl (fun h26 => ?_) (fun h26 => ?_)
            · refine P_iconst (pc' := 34) dX9_isUnder_33 rfl (v := 0) rfl ?_
              refine P_zret dX9_isUnder_34 (by first | exact Or.inl rfl | exact Or.inr rfl) ?_
              first
                | exact absurd (h11.symm.trans h21) (by decide)
                | (refine ⟨?_, rfl, rfl⟩; simp [unF, *]; done)
                | (refine ⟨?_, rfl, rfl⟩; subst h11; simp [unF, h16, h6]; done)
                | (refine ⟨?_, rfl, rfl⟩; subst h21; simp [unF, h26, h6]; done)
            · refine P_iconst (pc' := 30) dX9_isUnder_29 rfl (v := 1) rfl ?_
              refine P_goto (tgt := 34) dX9_isUnder_30 rfl ?_
              refine P_zret dX9_isUnder_34 (by first | exact Or.inl rfl | exact Or.inr rfl) ?_
              first
                | exact absurd (h11.symm.trans h21) (by decide)
                | (refine ⟨?_, rfl, rfl⟩; simp [unF, *]; done)
                | (refine ⟨?_, rfl, rfl⟩; subst h11; simp [unF, h16, h6]; done)
                | (refine ⟨?_, rfl, rfl⟩; subst h21; simp [unF, h26, h6]; done)
theorem unF_of {k o : Int32} (hk : isK k) (ho : isK o) : unF k o = ofF 6 k o := by
  rcases hk with rfl | rfl | rfl | rfl | rfl | rfl <;> rcases ho with rfl | rfl | rfl | rfl | rfl | rfl <;> decide
/-- the corners by digits, the last first -/
def dgt (y q b : Nat) : Nat := y / 8 ^ (q - 1 - b) % 8
def aDn (y q : Nat) : Nat → (Nat → Int32) → (Nat → Int32)
  | 0, A => A
  | b + 1, A => aDn y q b (upd A (17 + 5 * b) (nI (dgt y q b)))
theorem aDn_s (y q b : Nat) (A : Nat → Int32) : aDn y q (b + 1) A = aDn y q b (upd A (17 + 5 * b) (nI (dgt y q b))) := rfl
theorem lp_X9_stand {G : GX} {S : Shp} {I0 : Mem} {d y q : Nat} {B : Nat → Int32} (hsh : SHP S) (hq : q ≤ 9) (hy : y < 2 ^ 31) (hd : 1 ≤ d) : ∀ (b : Nat) (I : Mem), b ≤ q → aDn y q b (aR I) = B → FrR I0 I → PW G RX9 "stand" cX9_stand 5 none d 0 0 (fun r S' I' => r = none ∧ S = S' ∧ PsR I0 B I') 7 [some (.ref 55), some (.int (nI y)), some (.int (nI q)), some (.int (nI (y / 8 ^ (q - b)))), some (.int (nI b - 1))] [] S I := by
  intro b
  induction b with
  | zero =>
    intro I hb hB hf
    refine P_iload4 (pc' := 9) dX9_stand_7 rfl ?_
    refine P_if_lt (tgt := 34) (pc' := 12) dX9_stand_9 rfl rfl (fun h9 => ?_) (fun h9 => ?_)
    · refine P_vret dX9_stand_34 ?_
      exact ⟨rfl, rfl, hB, hf⟩
    · exact absurd (by decide) h9
  | succ b ih =>
    intro I hb hB hf
    have en : nI (b + 1) - 1 = nI b := nI_pred b
    have hlt : y / 8 ^ (q - (b + 1)) < 2 ^ 31 := Nat.lt_of_le_of_lt (Nat.div_le_self _ _) hy
    have er : nI (y / 8 ^ (q - (b + 1))) - nI (y / 8 ^ (q - (b + 1))) / 8 * 8 = nI (dgt y q b) := by rw [show (8 : Int32) = nI 8 from rfl, pk_rem hlt (by decide) (by decide)]; unfold dgt; rw [show q - (b + 1) = q - 1 - b by omega]
    have ed : nI (y / 8 ^ (q - (b + 1))) / 8 = nI (y / 8 ^ (q - b)) := by rw [show (8 : Int32) = nI 8 from rfl, pk_div hlt (by decide) (by decide), Nat.div_div_eq_div_mul, ← Nat.pow_succ, show (q - (b + 1)).succ = q - b by omega]
    rw [en]
    refine P_iload4 (pc' := 9) dX9_stand_7 rfl ?_
    refine P_if_lt (tgt := 34) (pc' := 12) dX9_stand_9 rfl rfl (fun h9 => ?_) (fun h9 => ?_)
    · exact absurd h9 (nI_pos (by omega))
    · refine P_aload0 (pc' := 13) dX9_stand_12 rfl ?_
      refine P_iload4 (pc' := 15) dX9_stand_13 rfl ?_
      refine P_iconst (pc' := 16) dX9_stand_15 rfl (v := 1) rfl ?_
      refine P_iload3 (pc' := 17) dX9_stand_16 rfl ?_
      refine P_bipush (pc' := 19) dX9_stand_17 rfl (v := 8) rfl ?_
      refine P_irem (pc' := 20) dX9_stand_19 rfl (by decide) ?_
      refine P_as er ?_
      refine P_callV3 (pc' := 23) dX9_stand_20 rfl lk_X9_79 (l_55 hsh) (t_55 hsh) (c_X9_put (k := 1) (d := 0) hsh (by omega) (by decide)) (by omega) (Nat.le_of_ble_eq_true rfl) (fun r S' I' hq => ?_)
      obtain ⟨rfl, rfl, rfl⟩ := hq
      refine P_iload3 (pc' := 24) dX9_stand_23 rfl ?_
      refine P_bipush (pc' := 26) dX9_stand_24 rfl (v := 8) rfl ?_
      refine P_idiv (pc' := 27) dX9_stand_26 rfl (by decide) ?_
      refine P_as ed ?_
      refine P_istore3 (pc' := 28) dX9_stand_27 rfl (by decide) rfl ?_
      refine P_iinc4 (pc' := 31) dX9_stand_28 rfl (v := nI b - 1) (by rw [Int32.sub_eq_add_neg]; rfl) (by decide) rfl ?_
      refine P_goto (tgt := 7) dX9_stand_31 rfl ?_
      refine ih _ (by omega) ?_ (hf.put (by omega))
      rw [aR_u (by omega), show 16 + 5 * b + 1 = 17 + 5 * b by omega]
      exact hB
theorem c_X9_stand {G : GX} {S : Shp} {I : Mem} {d y q : Nat} (hsh : SHP S) (hq : q ≤ 9) (hy : y < 2 ^ 31) (hd : 1 ≤ d) : PM G yX9_stand cX9_stand 5 none d 0 0 [.ref 55, .int (nI y), .int (nI q)] S I (fun r S' I' => r = none ∧ S = S' ∧ PsR I (aDn y q q (aR I)) I') := by
  refine PM.of (ls := [some (.ref 55), some (.int (nI y)), some (.int (nI q)), none, none]) (by decide) rfl (Nat.le_of_ble_eq_true rfl) rfl ?_
  show PW G RX9 "stand" _ _ _ _ _ _ _ _ _ _ _ _
  refine P_iload1 (pc' := 1) dX9_stand_0 rfl ?_
  refine P_istore3 (pc' := 2) dX9_stand_1 rfl (by decide) rfl ?_
  refine P_iload2 (pc' := 3) dX9_stand_2 rfl ?_
  refine P_iconst (pc' := 4) dX9_stand_3 rfl (v := 1) rfl ?_
  refine P_isub (pc' := 5) dX9_stand_4 rfl ?_
  refine P_istore4 (pc' := 7) dX9_stand_5 rfl (by decide) rfl ?_
  have h := lp_X9_stand (G := G) (d := d) (B := aDn y q q (aR I)) (I0 := I) hsh hq hy hd q I (Nat.le_refl _) rfl FrR.rf
  rw [Nat.sub_self, Nat.pow_zero, Nat.div_one] at h
  exact h
theorem upd_c {A : Nat → Int32} {i j : Nat} {v y : Int32} (h : i ≠ j) : upd (upd A i v) j y = upd (upd A j y) i v := by
  funext k
  unfold upd
  split <;> split <;> first | rfl | omega
theorem ltv_1 : ∀ y, y < 8 → ltv y 1 0 = nI (dgt y 1 0) := by decide +kernel
theorem ltv_2 : ∀ y, y < 64 → ltv y 2 0 = nI (dgt y 2 0) ∧ ltv y 2 1 = nI (dgt y 2 1) := by decide +kernel
theorem ltv_3 : ∀ y, y < 512 → ltv y 3 0 = nI (dgt y 3 0) ∧ ltv y 3 1 = nI (dgt y 3 1) ∧ ltv y 3 2 = nI (dgt y 3 2) := by decide +kernel
theorem aLet_dn {y q : Nat} {A : Nat → Int32} (hq : q ≤ 3) (hy : y < 8 ^ q) : aLet y q q 0 A = aDn y q q A := by
  have key : q = 0 ∨ q = 1 ∨ q = 2 ∨ q = 3 := by omega
  rcases key with rfl | rfl | rfl | rfl
  · rfl
  · rw [aLet_s, aDn_s, ltv_1 y (by omega)]
    rfl
  · have h := ltv_2 y (by omega)
    rw [aLet_s, aLet_s, aDn_s, aDn_s, h.1, h.2, upd_c (by decide)]
    rfl
  · have h := ltv_3 y (by omega)
    rw [aLet_s, aLet_s, aLet_s, aDn_s, aDn_s, aDn_s, h.1, h.2.1, h.2.2, upd_c (j := 17 + 5 * 2) (by decide), upd_c (i := 17 + 5 * 0) (j := 17 + 5 * 2) (by decide), upd_c (i := 17 + 5 * 0) (j := 17 + 5 * 1) (by decide)]
    rfl

