def Fro (o : Nat) (I J : Mem) : Prop := ∀ x, (x < o ∨ o + 6 < x) → J x = I x
theorem Fro.al {o : Nat} {S : Shp} {I J : Mem} {al : Int32 → Int32 → Int32 → Int32} (ho : StO o) (h : AlOk S I al) (hf : Fro o I J) : AlOk S J al := by
  have := ho.le
  exact h.mv (hf 28 (by omega)) (fun x hx _ => hf x (by omega))
theorem Fro.put {o : Nat} {I J : Mem} {x k : Nat} {v : Int32} (h : Fro o I J) (h1 : o ≤ x) (h2 : x ≤ o + 6) : Fro o I (u2 J x k v) := fun y hy => (u2_row (by omega)).trans (h y hy)
theorem Fro.rf {o : Nat} {I : Mem} : Fro o I I := fun _ _ => rfl
/-- the corner that the digits of a way give -/
def ltv (y q b : Nat) : Int32 := (nI y >>> ((3 * (nI q - 1 - nI b)) &&& 31)) &&& 7
def aLet (y q : Nat) : Nat → Nat → (Nat → Int32) → (Nat → Int32)
  | 0, _, A => A
  | k + 1, b, A => aLet y q k (b + 1) (upd A (17 + 5 * b) (ltv y q b))
theorem aLet_s (y q k b : Nat) (A : Nat → Int32) : aLet y q (k + 1) b A = aLet y q k (b + 1) (upd A (17 + 5 * b) (ltv y q b)) := rfl
theorem lp_X5_letOut {G : GX} {S : Shp} {I0 : Mem} {d o n y q : Nat} {B : Nat → Int32} (hsh : SHP S) (ho : StO o) (hn : n ≤ 9) (hq : q ≤ n) : ∀ (k b : Nat) (I : Mem), b + k = q → I o 6 = nI n → Fro o I0 I → aLet y q k b (aC o I) = B → PW G RX5 "letOut" cX5_letOut 4 none d 0 0 (fun r S' I' => r = none ∧ S = S' ∧ aC o I' = B ∧ Fro o I0 I') 2 [some (.ref o), some (.int (nI y)), some (.int (nI q)), some (.int (nI b))] [] S I := by
  have hso := ho.le
  intro k
  induction k with
  | zero =>
    intro b I hb hz hf hB
    refine P_iload3 (pc' := 3) dX5_letOut_2 rfl ?_
    refine P_iload2 (pc' := 4) dX5_letOut_3 rfl ?_
    refine P_icmp_ge (tgt := 39) (pc' := 7) dX5_letOut_4 rfl rfl (fun h4 => ?_) (fun h4 => ?_)
    · refine P_vret dX5_letOut_39 ?_
      exact ⟨rfl, rfl, hB, hf⟩
    · exact absurd (nI_le (by omega) (by omega)) h4
  | succ k ih =>
    intro b I hb hz hf hB
    refine P_iload3 (pc' := 3) dX5_letOut_2 rfl ?_
    refine P_iload2 (pc' := 4) dX5_letOut_3 rfl ?_
    refine P_icmp_ge (tgt := 39) (pc' := 7) dX5_letOut_4 rfl rfl (fun h4 => ?_) (fun h4 => ?_)
    · exact absurd h4 (nI_ge (by omega) (by omega))
    · refine P_iload3 (pc' := 8) dX5_letOut_7 rfl ?_
      refine P_aload0 (pc' := 9) dX5_letOut_8 rfl ?_
      refine P_geti (pc' := 12) dX5_letOut_9 rfl fl_X5_30 rfl (so_l0 hsh ho) (so_t0 hsh ho) ?_
      refine P_icmp_ge (tgt := 39) (pc' := 15) dX5_letOut_12 rfl rfl (fun h12 => ?_) (fun h12 => ?_)
      · exact absurd h12 (by rw [hz]; exact nI_ge (by omega) (by omega))
      · refine P_aload0 (pc' := 16) dX5_letOut_15 rfl ?_
        refine P_getr (pc' := 19) dX5_letOut_16 rfl fl_X5_18 rfl (so_l0 hsh ho) (so_t0 hsh ho) (so_p2 hsh ho) ?_
        refine P_iload3 (pc' := 20) dX5_letOut_19 rfl ?_
        refine P_iload1 (pc' := 21) dX5_letOut_20 rfl ?_
        refine P_iconst (pc' := 22) dX5_letOut_21 rfl (v := 3) rfl ?_
        refine P_iload2 (pc' := 23) dX5_letOut_22 rfl ?_
        refine P_iconst (pc' := 24) dX5_letOut_23 rfl (v := 1) rfl ?_
        refine P_isub (pc' := 25) dX5_letOut_24 rfl ?_
        refine P_iload3 (pc' := 26) dX5_letOut_25 rfl ?_
        refine P_isub (pc' := 27) dX5_letOut_26 rfl ?_
        refine P_imul (pc' := 28) dX5_letOut_27 rfl ?_
        refine P_ishr (pc' := 29) dX5_letOut_28 rfl ?_
        refine P_bipush (pc' := 31) dX5_letOut_29 rfl (v := 7) rfl ?_
        refine P_iand (pc' := 32) dX5_letOut_31 rfl ?_
        refine P_iast (pc' := 33) dX5_letOut_32 rfl (so_l3 hsh ho) (so_t3 hsh ho) (j := b) rfl (by omega) (by decide) ?_
        refine P_iinc3 (pc' := 36) dX5_letOut_33 rfl (nI_1 b) (by decide) rfl ?_
        refine P_goto (tgt := 2) dX5_letOut_36 rfl ?_
        refine ih (b + 1) _ (by omega) (by rw [u2_row (by omega)]; exact hz) (hf.put (by omega) (by omega)) ?_
        rw [aC_wc (by omega)]
        exact hB
theorem c_X5_letOut {G : GX} {S : Shp} {I : Mem} {d o n y q : Nat} (hsh : SHP S) (ho : StO o) (hz : I o 6 = nI n) (hn : n ≤ 9) (hq : q ≤ n) : PM G yX5_letOut cX5_letOut 4 none d 0 0 [.ref o, .int (nI y), .int (nI q)] S I (fun r S' I' => r = none ∧ S = S' ∧ aC o I' = aLet y q q 0 (aC o I) ∧ Fro o I I') := by
  refine PM.of (ls := [some (.ref o), some (.int (nI y)), some (.int (nI q)), none]) (by decide) rfl (Nat.le_of_ble_eq_true rfl) rfl ?_
  show PW G RX5 "letOut" _ _ _ _ _ _ _ _ _ _ _ _
  refine P_iconst (pc' := 1) dX5_letOut_0 rfl (v := 0) rfl ?_
  refine P_istore3 (pc' := 2) dX5_letOut_1 rfl (by decide) rfl ?_
  exact lp_X5_letOut (I0 := I) hsh ho hn hq q 0 I (by omega) hz Fro.rf rfl
def aAdd (A : Nat → Int32) (n : Nat) (k c s : Int32) : Nat → Int32 := upd (upd (upd (upd (upd (upd A (16 + 5 * n) k) (17 + 5 * n) c) (18 + 5 * n) s) (19 + 5 * n) 0) (20 + 5 * n) 0) 1 (nI (n + 1))
theorem c_X5_add {G : GX} {S : Shp} {I : Mem} {d o n : Nat} {k c s : Int32} (hsh : SHP S) (ho : StO o) (hz : I o 6 = nI n) (hn : n ≤ 8) (hd : 1 ≤ d) : PM G yX5_add cX5_add 5 (some .int) d 0 0 [.ref o, .int k, .int c, .int s] S I (fun r S' I' => r = some (.int (nI n)) ∧ S = S' ∧ aC o I' = aAdd (aC o I) n k c s ∧ Fro o I I') := by
  have hso := ho.le
  refine PM.of (ls := [some (.ref o), some (.int k), some (.int c), some (.int s), none]) (by decide) rfl (Nat.le_of_ble_eq_true rfl) rfl ?_
  show PW G RX5 "add" _ _ _ _ _ _ _ _ _ _ _ _
  refine P_aload0 (pc' := 1) dX5_add_0 rfl ?_
  refine P_geti (pc' := 4) dX5_add_1 rfl fl_X5_30 rfl (so_l0 hsh ho) (so_t0 hsh ho) ?_
  refine P_bipush (pc' := 6) dX5_add_4 rfl (v := 8) rfl ?_
  refine P_min (pc' := 9) dX5_add_6 rfl lk_X5_62 (by omega) (Nat.le_of_ble_eq_true rfl) ?_
  refine P_as (y := nI n) (by rw [hz, if_neg (show ¬ (8 : Int32) < nI n from nI_nlt (a := 8) (b := n) hn (by decide))]) ?_
  refine P_istore4 (pc' := 11) dX5_add_9 rfl (by decide) rfl ?_
  refine P_aload0 (pc' := 12) dX5_add_11 rfl ?_
  refine P_getr (pc' := 15) dX5_add_12 rfl fl_X5_15 rfl (so_l0 hsh ho) (so_t0 hsh ho) (so_p1 hsh ho) ?_
  refine P_iload4 (pc' := 17) dX5_add_15 rfl ?_
  refine P_iload1 (pc' := 18) dX5_add_17 rfl ?_
  refine P_iast (pc' := 19) dX5_add_18 rfl (so_l2 hsh ho) (so_t2 hsh ho) (j := n) rfl (by omega) (by decide) ?_
  refine P_aload0 (pc' := 20) dX5_add_19 rfl ?_
  refine P_getr (pc' := 23) dX5_add_20 rfl fl_X5_18 rfl (so_l0 hsh ho) (so_t0 hsh ho) (so_p2 hsh ho) ?_
  refine P_iload4 (pc' := 25) dX5_add_23 rfl ?_
  refine P_iload2 (pc' := 26) dX5_add_25 rfl ?_
  refine P_iast (pc' := 27) dX5_add_26 rfl (so_l3 hsh ho) (so_t3 hsh ho) (j := n) rfl (by omega) (by decide) ?_
  refine P_aload0 (pc' := 28) dX5_add_27 rfl ?_
  refine P_getr (pc' := 31) dX5_add_28 rfl fl_X5_21 rfl (so_l0 hsh ho) (so_t0 hsh ho) (so_p3 hsh ho) ?_
  refine P_iload4 (pc' := 33) dX5_add_31 rfl ?_
  refine P_iload3 (pc' := 34) dX5_add_33 rfl ?_
  refine P_iast (pc' := 35) dX5_add_34 rfl (so_l4 hsh ho) (so_t4 hsh ho) (j := n) rfl (by omega) (by decide) ?_
  refine P_aload0 (pc' := 36) dX5_add_35 rfl ?_
  refine P_getr (pc' := 39) dX5_add_36 rfl fl_X5_24 rfl (so_l0 hsh ho) (so_t0 hsh ho) (so_p4 hsh ho) ?_
  refine P_iload4 (pc' := 41) dX5_add_39 rfl ?_
  refine P_iconst (pc' := 42) dX5_add_41 rfl (v := 0) rfl ?_
  refine P_iast (pc' := 43) dX5_add_42 rfl (so_l5 hsh ho) (so_t5 hsh ho) (j := n) rfl (by omega) (by decide) ?_
  refine P_aload0 (pc' := 44) dX5_add_43 rfl ?_
  refine P_getr (pc' := 47) dX5_add_44 rfl fl_X5_27 rfl (so_l0 hsh ho) (so_t0 hsh ho) (so_p5 hsh ho) ?_
  refine P_iload4 (pc' := 49) dX5_add_47 rfl ?_
  refine P_iconst (pc' := 50) dX5_add_49 rfl (v := 0) rfl ?_
  refine P_iast (pc' := 51) dX5_add_50 rfl (so_l6 hsh ho) (so_t6 hsh ho) (j := n) rfl (by omega) (by decide) ?_
  refine P_aload0 (pc' := 52) dX5_add_51 rfl ?_
  refine P_iload4 (pc' := 54) dX5_add_52 rfl ?_
  refine P_iconst (pc' := 55) dX5_add_54 rfl (v := 1) rfl ?_
  refine P_iadd (pc' := 56) dX5_add_55 rfl ?_
  refine P_as (y := nI (n + 1)) (nI_1 n) ?_
  refine P_puti (pc' := 59) dX5_add_56 rfl fl_X5_30 rfl (so_l0 hsh ho) (so_t0 hsh ho) ?_
  refine P_iload4 (pc' := 61) dX5_add_59 rfl ?_
  refine P_iret dX5_add_61 ?_
  refine ⟨rfl, rfl, ?_, ((((((Fro.rf.put (by omega) (by omega)).put (by omega) (by omega)).put (by omega) (by omega)).put (by omega) (by omega)).put (by omega) (by omega)).put (by omega) (by omega))⟩
  unfold aAdd
  rw [← aC_wk (by omega), ← aC_wc (by omega), ← aC_ws (by omega), ← aC_wp (by omega), ← aC_wh (by omega), ← aC_sc (j := 1) (by decide)]
  rfl
theorem aC_eq {o p : Nat} {I J : Mem} (h1 : ∀ j, j < 8 → J o (scf j) = I p (scf j)) (h2 : ∀ j, j < 8 → J (o + 1) j = I (p + 1) j) (h3 : ∀ k b, k < 5 → b < 9 → J (o + 2 + k) b = I (p + 2 + k) b) : aC o J = aC p I := by
  funext i
  unfold aC
  split
  · exact h1 i (by omega)
  · split
    · exact h2 _ (by omega)
    · split
      · exact h3 _ _ (Nat.mod_lt _ (by decide)) (by omega)
      · rfl
theorem cpy_in {f g : Nat → Int32} {n j : Nat} (h : j < n) : va_cpy f g 0 0 n j = f j := by
  rw [pk_cpy_in (by omega) (by omega)]
  congr 1
  omega
theorem P_copyQ {G : GX} {own nm : String} {cc : ByteArray} {nL : Nat} {ret : Option FieldType} {d kc ks : Nat} {Q : Option Value → Shp → Mem → Prop} {pc pc' : Nat} {ls : List (Option Value)} {rest : List Value} {S : Shp} {I : Mem} {idx a b n0 n1 n : Nat} {n' : Int32} (hd : decode cc pc = .ok (.invokestatic idx, 3)) (hp : pc + 3 = pc') (hw : Cond.methodLink own idx arraycopyName ∈ lw_tbl ∧ Cond.native arraycopyName ∈ lw_tbl ∧ Cond.static arraycopyName ∈ lw_tbl ∧ Cond.initialized "java/lang/System" ∈ lw_tbl) (ha : a < S.1) (hta : S.2.1 a = (9, n0)) (hbn : b < S.1) (htb : S.2.1 b = (9, n1)) (e3 : n' = nI n) (h1 : n ≤ n0) (h2 : n ≤ n1) (hn0 : n0 < 2 ^ 31) (hn1 : n1 < 2 ^ 31) (hd1 : 2 ≤ d) (hsum : (rest.map fun v => v.category).sum ≤ 8) (k : ∀ J : Mem, (∀ j, j < n → J b j = I a j) → (∀ j, n ≤ j → J b j = I b j) → (∀ x, x ≠ b → J x = I x) → PW G own nm cc nL ret d kc ks Q pc' ls rest S J) : PW G own nm cc nL ret d kc ks Q pc ls (.int n' :: .int 0 :: .ref b :: .int 0 :: .ref a :: rest) S I := by
  refine P_copy (sp := 0) (dp := 0) (n := n) hd hp hw ha hta hbn htb rfl rfl e3 (by omega) (by omega) hn0 hn1 hd1 hsum (k _ (fun j hj => ?_) (fun j hj => ?_) (fun x hx => if_neg hx))
  · show (if b = b then va_cpy (I a) (I b) 0 0 n else I b) j = _
    rw [if_pos rfl, cpy_in hj]
  · show (if b = b then va_cpy (I a) (I b) 0 0 n else I b) j = _
    rw [if_pos rfl, pk_cpy_out (by omega)]
theorem c_X5_become {G : GX} {S : Shp} {I : Mem} {d o p : Nat} (hsh : SHP S) (ho : StO o) (hp : StO p) (hop : o ≠ p) (hw : I p 8 = 0 ∨ I p 8 = 1) (hd : 2 ≤ d) : PM G yX5_become cX5_become 2 none d 0 0 [.ref o, .ref p] S I (fun r S' I' => r = none ∧ S = S' ∧ aC o I' = aC p I ∧ Fro o I I') := by
  have hso := ho.le
  have hsp := hp.le
  have hap : o + 6 < p ∨ p + 6 < o := by rcases ho with rfl | rfl | rfl <;> rcases hp with rfl | rfl | rfl <;> omega
  refine PM.of (ls := [some (.ref o), some (.ref p)]) (by decide) rfl (Nat.le_of_ble_eq_true rfl) rfl ?_
  show PW G RX5 "become" _ _ _ _ _ _ _ _ _ _ _ _
  refine P_aload1 (pc' := 1) dX5_become_0 rfl ?_
  refine P_getr (pc' := 4) dX5_become_1 rfl fl_X5_9 rfl (so_l0 hsh hp) (so_t0 hsh hp) (so_p0 hsh hp) ?_
  refine P_iconst (pc' := 5) dX5_become_4 rfl (v := 0) rfl ?_
  refine P_aload0 (pc' := 6) dX5_become_5 rfl ?_
  refine P_getr (pc' := 9) dX5_become_6 rfl fl_X5_9 rfl (so_l0 hsh ho) (so_t0 hsh ho) (so_p0 hsh ho) ?_
  refine P_iconst (pc' := 10) dX5_become_9 rfl (v := 0) rfl ?_
  refine P_bipush (pc' := 12) dX5_become_10 rfl (v := 8) rfl ?_
  refine P_copyQ (pc' := 15) dX5_become_12 rfl lk_X5_56 (so_l1 hsh hp) (so_t1 hsh hp) (so_l1 hsh ho) (so_t1 hsh ho) (n := 8) rfl (by decide) (by decide) (by decide) (by decide) (by omega) (Nat.le_of_ble_eq_true rfl) (fun J1 a1 z1 b1 => ?_)
  refine P_aload1 (pc' := 16) dX5_become_15 rfl ?_
  refine P_getr (pc' := 19) dX5_become_16 rfl fl_X5_15 rfl (so_l0 hsh hp) (so_t0 hsh hp) (so_p1 hsh hp) ?_
  refine P_iconst (pc' := 20) dX5_become_19 rfl (v := 0) rfl ?_
  refine P_aload0 (pc' := 21) dX5_become_20 rfl ?_
  refine P_getr (pc' := 24) dX5_become_21 rfl fl_X5_15 rfl (so_l0 hsh ho) (so_t0 hsh ho) (so_p1 hsh ho) ?_
  refine P_iconst (pc' := 25) dX5_become_24 rfl (v := 0) rfl ?_
  refine P_bipush (pc' := 27) dX5_become_25 rfl (v := 9) rfl ?_
  refine P_copyQ (pc' := 30) dX5_become_27 rfl lk_X5_56 (so_l2 hsh hp) (so_t2 hsh hp) (so_l2 hsh ho) (so_t2 hsh ho) (n := 9) rfl (by decide) (by decide) (by decide) (by decide) (by omega) (Nat.le_of_ble_eq_true rfl) (fun J2 a2 z2 b2 => ?_)
  refine P_aload1 (pc' := 31) dX5_become_30 rfl ?_
  refine P_getr (pc' := 34) dX5_become_31 rfl fl_X5_18 rfl (so_l0 hsh hp) (so_t0 hsh hp) (so_p2 hsh hp) ?_
  refine P_iconst (pc' := 35) dX5_become_34 rfl (v := 0) rfl ?_
  refine P_aload0 (pc' := 36) dX5_become_35 rfl ?_
  refine P_getr (pc' := 39) dX5_become_36 rfl fl_X5_18 rfl (so_l0 hsh ho) (so_t0 hsh ho) (so_p2 hsh ho) ?_
  refine P_iconst (pc' := 40) dX5_become_39 rfl (v := 0) rfl ?_
  refine P_bipush (pc' := 42) dX5_become_40 rfl (v := 9) rfl ?_
  refine P_copyQ (pc' := 45) dX5_become_42 rfl lk_X5_56 (so_l3 hsh hp) (so_t3 hsh hp) (so_l3 hsh ho) (so_t3 hsh ho) (n := 9) rfl (by decide) (by decide) (by decide) (by decide) (by omega) (Nat.le_of_ble_eq_true rfl) (fun J3 a3 z3 b3 => ?_)
  refine P_aload1 (pc' := 46) dX5_become_45 rfl ?_
  refine P_getr (pc' := 49) dX5_become_46 rfl fl_X5_21 rfl (so_l0 hsh hp) (so_t0 hsh hp) (so_p3 hsh hp) ?_
  refine P_iconst (pc' := 50) dX5_become_49 rfl (v := 0) rfl ?_
  refine P_aload0 (pc' := 51) dX5_become_50 rfl ?_
  refine P_getr (pc' := 54) dX5_become_51 rfl fl_X5_21 rfl (so_l0 hsh ho) (so_t0 hsh ho) (so_p3 hsh ho) ?_
  refine P_iconst (pc' := 55) dX5_become_54 rfl (v := 0) rfl ?_
  refine P_bipush (pc' := 57) dX5_become_55 rfl (v := 9) rfl ?_
  refine P_copyQ (pc' := 60) dX5_become_57 rfl lk_X5_56 (so_l4 hsh hp) (so_t4 hsh hp) (so_l4 hsh ho) (so_t4 hsh ho) (n := 9) rfl (by decide) (by decide) (by decide) (by decide) (by omega) (Nat.le_of_ble_eq_true rfl) (fun J4 a4 z4 b4 => ?_)
  refine P_aload1 (pc' := 61) dX5_become_60 rfl ?_
  refine P_getr (pc' := 64) dX5_become_61 rfl fl_X5_24 rfl (so_l0 hsh hp) (so_t0 hsh hp) (so_p4 hsh hp) ?_
  refine P_iconst (pc' := 65) dX5_become_64 rfl (v := 0) rfl ?_
  refine P_aload0 (pc' := 66) dX5_become_65 rfl ?_
  refine P_getr (pc' := 69) dX5_become_66 rfl fl_X5_24 rfl (so_l0 hsh ho) (so_t0 hsh ho) (so_p4 hsh ho) ?_
  refine P_iconst (pc' := 70) dX5_become_69 rfl (v := 0) rfl ?_
  refine P_bipush (pc' := 72) dX5_become_70 rfl (v := 9) rfl ?_
  refine P_copyQ (pc' := 75) dX5_become_72 rfl lk_X5_56 (so_l5 hsh hp) (so_t5 hsh hp) (so_l5 hsh ho) (so_t5 hsh ho) (n := 9) rfl (by decide) (by decide) (by decide) (by decide) (by omega) (Nat.le_of_ble_eq_true rfl) (fun J5 a5 z5 b5 => ?_)
  refine P_aload1 (pc' := 76) dX5_become_75 rfl ?_
  refine P_getr (pc' := 79) dX5_become_76 rfl fl_X5_27 rfl (so_l0 hsh hp) (so_t0 hsh hp) (so_p5 hsh hp) ?_
  refine P_iconst (pc' := 80) dX5_become_79 rfl (v := 0) rfl ?_
  refine P_aload0 (pc' := 81) dX5_become_80 rfl ?_
  refine P_getr (pc' := 84) dX5_become_81 rfl fl_X5_27 rfl (so_l0 hsh ho) (so_t0 hsh ho) (so_p5 hsh ho) ?_
  refine P_iconst (pc' := 85) dX5_become_84 rfl (v := 0) rfl ?_
  refine P_bipush (pc' := 87) dX5_become_85 rfl (v := 9) rfl ?_
  refine P_copyQ (pc' := 90) dX5_become_87 rfl lk_X5_56 (so_l6 hsh hp) (so_t6 hsh hp) (so_l6 hsh ho) (so_t6 hsh ho) (n := 9) rfl (by decide) (by decide) (by decide) (by decide) (by omega) (Nat.le_of_ble_eq_true rfl) (fun J6 a6 z6 b6 => ?_)
  have e6 : ∀ x, (x < o + 1 ∨ o + 6 < x) → J6 x = I x := fun x hx => by rw [b6 x (by omega), b5 x (by omega), b4 x (by omega), b3 x (by omega), b2 x (by omega), b1 x (by omega)]
  refine P_aload0 (pc' := 91) dX5_become_90 rfl ?_
  refine P_aload1 (pc' := 92) dX5_become_91 rfl ?_
  refine P_geti (pc' := 95) dX5_become_92 rfl fl_X5_30 rfl (so_l0 hsh hp) (so_t0 hsh hp) ?_
  refine P_puti (pc' := 98) dX5_become_95 rfl fl_X5_30 rfl (so_l0 hsh ho) (so_t0 hsh ho) ?_
  refine P_aload0 (pc' := 99) dX5_become_98 rfl ?_
  refine P_aload1 (pc' := 100) dX5_become_99 rfl ?_
  refine P_geti (pc' := 103) dX5_become_100 rfl fl_X5_34 rfl (so_l0 hsh hp) (so_t0 hsh hp) ?_
  refine P_puti (pc' := 106) dX5_become_103 rfl fl_X5_34 rfl (so_l0 hsh ho) (so_t0 hsh ho) ?_
  refine P_aload0 (pc' := 107) dX5_become_106 rfl ?_
  refine P_aload1 (pc' := 108) dX5_become_107 rfl ?_
  refine P_geti (pc' := 111) dX5_become_108 rfl fl_X5_37 rfl (so_l0 hsh hp) (so_t0 hsh hp) ?_
  refine P_putz (pc' := 114) dX5_become_111 rfl fl_X5_37 rfl (so_l0 hsh ho) (so_t0 hsh ho) (by rw [u2_row (by omega), u2_row (by omega), e6 p (by omega)]; exact hw) ?_
  refine P_aload0 (pc' := 115) dX5_become_114 rfl ?_
  refine P_aload1 (pc' := 116) dX5_become_115 rfl ?_
  refine P_geti (pc' := 119) dX5_become_116 rfl fl_X5_41 rfl (so_l0 hsh hp) (so_t0 hsh hp) ?_
  refine P_puti (pc' := 122) dX5_become_119 rfl fl_X5_41 rfl (so_l0 hsh ho) (so_t0 hsh ho) ?_
  refine P_aload0 (pc' := 123) dX5_become_122 rfl ?_
  refine P_aload1 (pc' := 124) dX5_become_123 rfl ?_
  refine P_geti (pc' := 127) dX5_become_124 rfl fl_X5_44 rfl (so_l0 hsh hp) (so_t0 hsh hp) ?_
  refine P_puti (pc' := 130) dX5_become_127 rfl fl_X5_44 rfl (so_l0 hsh ho) (so_t0 hsh ho) ?_
  refine P_aload0 (pc' := 131) dX5_become_130 rfl ?_
  refine P_aload1 (pc' := 132) dX5_become_131 rfl ?_
  refine P_geti (pc' := 135) dX5_become_132 rfl fl_X5_47 rfl (so_l0 hsh hp) (so_t0 hsh hp) ?_
  refine P_puti (pc' := 138) dX5_become_135 rfl fl_X5_47 rfl (so_l0 hsh ho) (so_t0 hsh ho) ?_
  refine P_aload0 (pc' := 139) dX5_become_138 rfl ?_
  refine P_aload1 (pc' := 140) dX5_become_139 rfl ?_
  refine P_geti (pc' := 143) dX5_become_140 rfl fl_X5_50 rfl (so_l0 hsh hp) (so_t0 hsh hp) ?_
  refine P_puti (pc' := 146) dX5_become_143 rfl fl_X5_50 rfl (so_l0 hsh ho) (so_t0 hsh ho) ?_
  refine P_aload0 (pc' := 147) dX5_become_146 rfl ?_
  refine P_aload1 (pc' := 148) dX5_become_147 rfl ?_
  refine P_geti (pc' := 151) dX5_become_148 rfl fl_X5_53 rfl (so_l0 hsh hp) (so_t0 hsh hp) ?_
  refine P_puti (pc' := 154) dX5_become_151 rfl fl_X5_53 rfl (so_l0 hsh ho) (so_t0 hsh ho) ?_
  refine P_vret dX5_become_154 ?_
  refine ⟨rfl, rfl, ?_, ?_⟩
  · refine aC_eq (fun j hj => ?_) (fun j hj => ?_) (fun k b hk hb => ?_)
    · have q : ¬ p = o := fun z => hop z.symm
      have key : j = 0 ∨ j = 1 ∨ j = 2 ∨ j = 3 ∨ j = 4 ∨ j = 5 ∨ j = 6 ∨ j = 7 := by omega
      rcases key with rfl | rfl | rfl | rfl | rfl | rfl | rfl | rfl <;> simp [scf, u2, q, e6 p (by omega)]
    · rw [u2_row (by omega), u2_row (by omega), u2_row (by omega), u2_row (by omega), u2_row (by omega), u2_row (by omega), u2_row (by omega), u2_row (by omega), b6 _ (by omega), b5 _ (by omega), b4 _ (by omega), b3 _ (by omega), b2 _ (by omega)]
      exact a1 j hj
    · rw [u2_row (by omega), u2_row (by omega), u2_row (by omega), u2_row (by omega), u2_row (by omega), u2_row (by omega), u2_row (by omega), u2_row (by omega)]
      have key : k = 0 ∨ k = 1 ∨ k = 2 ∨ k = 3 ∨ k = 4 := by omega
      rcases key with rfl | rfl | rfl | rfl | rfl
      · rw [b6 _ (by omega), b5 _ (by omega), b4 _ (by omega), b3 _ (by omega), a2 b hb, b1 _ (by omega)]
      · rw [b6 _ (by omega), b5 _ (by omega), b4 _ (by omega), a3 b hb, b2 _ (by omega), b1 _ (by omega)]
      · rw [b6 _ (by omega), b5 _ (by omega), a4 b hb, b3 _ (by omega), b2 _ (by omega), b1 _ (by omega)]
      · rw [b6 _ (by omega), a5 b hb, b4 _ (by omega), b3 _ (by omega), b2 _ (by omega), b1 _ (by omega)]
      · rw [a6 b hb, b5 _ (by omega), b4 _ (by omega), b3 _ (by omega), b2 _ (by omega), b1 _ (by omega)]
  · intro x hx
    rw [u2_row (by omega), u2_row (by omega), u2_row (by omega), u2_row (by omega), u2_row (by omega), u2_row (by omega), u2_row (by omega), u2_row (by omega), e6 x (by omega)]

