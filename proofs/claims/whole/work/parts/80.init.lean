/-! ===== making: the constructors. A state of shape and memory has a name behind each step ===== -/
theorem P_fd {G : GX} {own nm : String} {cc : ByteArray} {nL : Nat} {ret : Option FieldType} {d kc ks : Nat} {Q : Option Value → Shp → Mem → Prop} {pc : Nat} {ls : List (Option Value)} {st : List Value} {S S' : Shp} {I I' : Mem} (hS : S = S') (hI : I = I') (k : PW G own nm cc nL ret d kc ks Q pc ls st S' I') : PW G own nm cc nL ret d kc ks Q pc ls st S I := by
  subst hS
  subst hI
  exact k
theorem P_ra {G : GX} {own nm : String} {cc : ByteArray} {nL : Nat} {ret : Option FieldType} {d kc ks : Nat} {Q : Option Value → Shp → Mem → Prop} {pc : Nat} {ls : List (Option Value)} {rest : List Value} {S : Shp} {I : Mem} {a b : Nat} (h : a = b) (k : PW G own nm cc nL ret d kc ks Q pc ls (.ref b :: rest) S I) : PW G own nm cc nL ret d kc ks Q pc ls (.ref a :: rest) S I := h ▸ k
def OB (S : Shp) (a : Nat) (q : Nat × Nat) : Prop := a < S.1 ∧ S.2.1 a = q
theorem ob_n {S : Shp} {a : Nat} {q z : Nat × Nat} (h : OB S a q) : OB (nS S z) a q := by
  refine ⟨Nat.lt_succ_of_lt h.1, ?_⟩
  show (if a = S.1 then z else S.2.1 a) = q
  rw [if_neg (Nat.ne_of_lt h.1)]
  exact h.2
theorem ob_w (S : Shp) (z : Nat × Nat) : OB (nS S z) S.1 z := ⟨Nat.lt_succ_self _, nS_t S z⟩
/-- no reference beyond the 33rd field -/
def NB (S : Shp) : Prop := ∀ i j, 33 ≤ j → S.2.2 i j = none
theorem nb_n {S : Shp} {z : Nat × Nat} (h : NB S) : NB (nS S z) := fun i j hj => by
  show (if i = S.1 then none else S.2.2 i j) = none
  split
  · rfl
  · exact h i j hj
theorem nb_p {S : Shp} {a k : Nat} {v : Option Nat} (h : NB S) (hk : k < 33) : NB (S.1, S.2.1, p2 S.2.2 a k v) := fun i j hj => by
  show p2 S.2.2 a k v i j = none
  unfold p2
  rw [if_neg (by omega)]
  exact h i j hj
def j5iS1 (S : Shp) (o : Nat) : Shp := nS S (9, 8)
def j5iM1 (S : Shp) (o : Nat) (I : Mem) : Mem := nM S I
theorem j5iB1 {S : Shp} {o : Nat} (h : NB S) : NB (j5iS1 S o) := nb_n h
def j5iS2 (S : Shp) (o : Nat) : Shp := ((j5iS1 S o).1, (j5iS1 S o).2.1, p2 (j5iS1 S o).2.2 o 0 (some S.1))
def j5iM2 (S : Shp) (o : Nat) (I : Mem) : Mem := (j5iM1 S o I)
theorem j5iB2 {S : Shp} {o : Nat} (h : NB S) : NB (j5iS2 S o) := nb_p (j5iB1 h) (by decide)
def j5iS3 (S : Shp) (o : Nat) : Shp := nS (j5iS2 S o) (9, 9)
def j5iM3 (S : Shp) (o : Nat) (I : Mem) : Mem := nM (j5iS2 S o) (j5iM2 S o I)
theorem j5iB3 {S : Shp} {o : Nat} (h : NB S) : NB (j5iS3 S o) := nb_n (j5iB2 h)
def j5iS4 (S : Shp) (o : Nat) : Shp := ((j5iS3 S o).1, (j5iS3 S o).2.1, p2 (j5iS3 S o).2.2 o 1 (some (j5iS2 S o).1))
def j5iM4 (S : Shp) (o : Nat) (I : Mem) : Mem := (j5iM3 S o I)
theorem j5iB4 {S : Shp} {o : Nat} (h : NB S) : NB (j5iS4 S o) := nb_p (j5iB3 h) (by decide)
def j5iS5 (S : Shp) (o : Nat) : Shp := nS (j5iS4 S o) (9, 9)
def j5iM5 (S : Shp) (o : Nat) (I : Mem) : Mem := nM (j5iS4 S o) (j5iM4 S o I)
theorem j5iB5 {S : Shp} {o : Nat} (h : NB S) : NB (j5iS5 S o) := nb_n (j5iB4 h)
def j5iS6 (S : Shp) (o : Nat) : Shp := ((j5iS5 S o).1, (j5iS5 S o).2.1, p2 (j5iS5 S o).2.2 o 2 (some (j5iS4 S o).1))
def j5iM6 (S : Shp) (o : Nat) (I : Mem) : Mem := (j5iM5 S o I)
theorem j5iB6 {S : Shp} {o : Nat} (h : NB S) : NB (j5iS6 S o) := nb_p (j5iB5 h) (by decide)
def j5iS7 (S : Shp) (o : Nat) : Shp := nS (j5iS6 S o) (9, 9)
def j5iM7 (S : Shp) (o : Nat) (I : Mem) : Mem := nM (j5iS6 S o) (j5iM6 S o I)
theorem j5iB7 {S : Shp} {o : Nat} (h : NB S) : NB (j5iS7 S o) := nb_n (j5iB6 h)
def j5iS8 (S : Shp) (o : Nat) : Shp := ((j5iS7 S o).1, (j5iS7 S o).2.1, p2 (j5iS7 S o).2.2 o 3 (some (j5iS6 S o).1))
def j5iM8 (S : Shp) (o : Nat) (I : Mem) : Mem := (j5iM7 S o I)
theorem j5iB8 {S : Shp} {o : Nat} (h : NB S) : NB (j5iS8 S o) := nb_p (j5iB7 h) (by decide)
def j5iS9 (S : Shp) (o : Nat) : Shp := nS (j5iS8 S o) (9, 9)
def j5iM9 (S : Shp) (o : Nat) (I : Mem) : Mem := nM (j5iS8 S o) (j5iM8 S o I)
theorem j5iB9 {S : Shp} {o : Nat} (h : NB S) : NB (j5iS9 S o) := nb_n (j5iB8 h)
def j5iS10 (S : Shp) (o : Nat) : Shp := ((j5iS9 S o).1, (j5iS9 S o).2.1, p2 (j5iS9 S o).2.2 o 4 (some (j5iS8 S o).1))
def j5iM10 (S : Shp) (o : Nat) (I : Mem) : Mem := (j5iM9 S o I)
theorem j5iB10 {S : Shp} {o : Nat} (h : NB S) : NB (j5iS10 S o) := nb_p (j5iB9 h) (by decide)
def j5iS11 (S : Shp) (o : Nat) : Shp := nS (j5iS10 S o) (9, 9)
def j5iM11 (S : Shp) (o : Nat) (I : Mem) : Mem := nM (j5iS10 S o) (j5iM10 S o I)
theorem j5iB11 {S : Shp} {o : Nat} (h : NB S) : NB (j5iS11 S o) := nb_n (j5iB10 h)
def j5iS12 (S : Shp) (o : Nat) : Shp := ((j5iS11 S o).1, (j5iS11 S o).2.1, p2 (j5iS11 S o).2.2 o 5 (some (j5iS10 S o).1))
def j5iM12 (S : Shp) (o : Nat) (I : Mem) : Mem := (j5iM11 S o I)
theorem j5iB12 {S : Shp} {o : Nat} (h : NB S) : NB (j5iS12 S o) := nb_p (j5iB11 h) (by decide)
def j5iS13 (S : Shp) (o : Nat) : Shp := (j5iS12 S o)
def j5iM13 (S : Shp) (o : Nat) (I : Mem) : Mem := u2 (j5iM12 S o I) o 6 0
theorem j5iB13 {S : Shp} {o : Nat} (h : NB S) : NB (j5iS13 S o) := (j5iB12 h)
def j5iS14 (S : Shp) (o : Nat) : Shp := (j5iS13 S o)
def j5iM14 (S : Shp) (o : Nat) (I : Mem) : Mem := u2 (j5iM13 S o I) o 7 20
theorem j5iB14 {S : Shp} {o : Nat} (h : NB S) : NB (j5iS14 S o) := (j5iB13 h)
def j5iS15 (S : Shp) (o : Nat) : Shp := (j5iS14 S o)
def j5iM15 (S : Shp) (o : Nat) (I : Mem) : Mem := u2 (j5iM14 S o I) o 8 0
theorem j5iB15 {S : Shp} {o : Nat} (h : NB S) : NB (j5iS15 S o) := (j5iB14 h)
def j5iS16 (S : Shp) (o : Nat) : Shp := (j5iS15 S o)
def j5iM16 (S : Shp) (o : Nat) (I : Mem) : Mem := u2 (j5iM15 S o I) o 9 8
theorem j5iB16 {S : Shp} {o : Nat} (h : NB S) : NB (j5iS16 S o) := (j5iB15 h)
def j5iS17 (S : Shp) (o : Nat) : Shp := (j5iS16 S o)
def j5iM17 (S : Shp) (o : Nat) (I : Mem) : Mem := u2 (j5iM16 S o I) o 10 0
theorem j5iB17 {S : Shp} {o : Nat} (h : NB S) : NB (j5iS17 S o) := (j5iB16 h)
def j5iS18 (S : Shp) (o : Nat) : Shp := (j5iS17 S o)
def j5iM18 (S : Shp) (o : Nat) (I : Mem) : Mem := u2 (j5iM17 S o I) o 11 0
theorem j5iB18 {S : Shp} {o : Nat} (h : NB S) : NB (j5iS18 S o) := (j5iB17 h)
def j5iS19 (S : Shp) (o : Nat) : Shp := (j5iS18 S o)
def j5iM19 (S : Shp) (o : Nat) (I : Mem) : Mem := u2 (j5iM18 S o I) o 12 1
theorem j5iB19 {S : Shp} {o : Nat} (h : NB S) : NB (j5iS19 S o) := (j5iB18 h)
def j5iS20 (S : Shp) (o : Nat) : Shp := (j5iS19 S o)
def j5iM20 (S : Shp) (o : Nat) (I : Mem) : Mem := u2 (j5iM19 S o I) o 13 0
theorem j5iB20 {S : Shp} {o : Nat} (h : NB S) : NB (j5iS20 S o) := (j5iB19 h)
theorem j5iO {S : Shp} {o x : Nat} {q : Nat × Nat} (h : OB S x q) : OB (j5iS20 S o) x q := ob_n (ob_n (ob_n (ob_n (ob_n (ob_n h)))))
theorem c_X5_init {G : GX} {S : Shp} {I : Mem} {d o : Nat} (h_0 : OB S o (4, 0)) (cap : S.1 + 6 ≤ 3000) (hd : 1 ≤ d) : PM G yX5_init cX5_init 1 none d 6 53 [.ref o] S I (fun r S' J => r = none ∧ S' = j5iS20 S o ∧ J = j5iM20 S o I) := by
  refine PM.of (ls := [some (.ref o)]) (by decide) rfl (Nat.le_of_ble_eq_true rfl) rfl ?_
  show PW G RX5 "<init>" _ _ _ _ _ _ _ _ _ _ _ _
  refine PW.room (d := d) (kc := ((((((0 + 1) + 1) + 1) + 1) + 1) + 1)) (ks := ((((((0 + 9) + 9) + 9) + 9) + 9) + 8)) ?_ (Nat.le_refl _) (by decide +kernel) (by decide +kernel)
  refine P_aload0 (pc' := 1) dX5_init_0 rfl ?_
  refine P_objInit (pc' := 4) dX5_init_1 rfl lk_X5_3 (by omega) (Nat.le_of_ble_eq_true rfl) ?_
  refine P_aload0 (pc' := 5) dX5_init_4 rfl ?_
  refine P_bipush (pc' := 7) dX5_init_5 rfl (v := 8) rfl ?_
  refine P_newi (pc' := 9) (N := 8) dX5_init_7 rfl ac_int rfl (Nat.le_of_ble_eq_true rfl) (by show S.1 + 1 ≤ 900000; omega) ?_
  refine P_fd (S' := (j5iS1 S o)) (I' := (j5iM1 S o I)) rfl rfl ?_
  have h_1 : OB (j5iS1 S o) o (4, 0) := ob_n h_0
  refine P_putrF (pc' := 12) dX5_init_9 rfl fl_X5_9 rfl (fun _ _ _ z => (congrArg Prod.fst (Option.some.inj z)).symm) (Or.inr ⟨_, rfl⟩) rfl h_1.1 h_1.2 ?_
  refine P_fd (S' := (j5iS2 S o)) (I' := (j5iM2 S o I)) rfl rfl ?_
  have h_2 : OB (j5iS2 S o) o (4, 0) := h_1
  refine P_aload0 (pc' := 13) dX5_init_12 rfl ?_
  refine P_bipush (pc' := 15) dX5_init_13 rfl (v := 9) rfl ?_
  refine P_newi (pc' := 17) (N := 9) dX5_init_15 rfl ac_int rfl (Nat.le_of_ble_eq_true rfl) (by show S.1 + 1 + 1 ≤ 900000; omega) ?_
  refine P_fd (S' := (j5iS3 S o)) (I' := (j5iM3 S o I)) rfl rfl ?_
  have h_3 : OB (j5iS3 S o) o (4, 0) := ob_n h_2
  refine P_putrF (pc' := 20) dX5_init_17 rfl fl_X5_15 rfl (fun _ _ _ z => (congrArg Prod.fst (Option.some.inj z)).symm) (Or.inr ⟨_, rfl⟩) rfl h_3.1 h_3.2 ?_
  refine P_fd (S' := (j5iS4 S o)) (I' := (j5iM4 S o I)) rfl rfl ?_
  have h_4 : OB (j5iS4 S o) o (4, 0) := h_3
  refine P_aload0 (pc' := 21) dX5_init_20 rfl ?_
  refine P_bipush (pc' := 23) dX5_init_21 rfl (v := 9) rfl ?_
  refine P_newi (pc' := 25) (N := 9) dX5_init_23 rfl ac_int rfl (Nat.le_of_ble_eq_true rfl) (by show S.1 + 1 + 1 + 1 ≤ 900000; omega) ?_
  refine P_fd (S' := (j5iS5 S o)) (I' := (j5iM5 S o I)) rfl rfl ?_
  have h_5 : OB (j5iS5 S o) o (4, 0) := ob_n h_4
  refine P_putrF (pc' := 28) dX5_init_25 rfl fl_X5_18 rfl (fun _ _ _ z => (congrArg Prod.fst (Option.some.inj z)).symm) (Or.inr ⟨_, rfl⟩) rfl h_5.1 h_5.2 ?_
  refine P_fd (S' := (j5iS6 S o)) (I' := (j5iM6 S o I)) rfl rfl ?_
  have h_6 : OB (j5iS6 S o) o (4, 0) := h_5
  refine P_aload0 (pc' := 29) dX5_init_28 rfl ?_
  refine P_bipush (pc' := 31) dX5_init_29 rfl (v := 9) rfl ?_
  refine P_newi (pc' := 33) (N := 9) dX5_init_31 rfl ac_int rfl (Nat.le_of_ble_eq_true rfl) (by show S.1 + 1 + 1 + 1 + 1 ≤ 900000; omega) ?_
  refine P_fd (S' := (j5iS7 S o)) (I' := (j5iM7 S o I)) rfl rfl ?_
  have h_7 : OB (j5iS7 S o) o (4, 0) := ob_n h_6
  refine P_putrF (pc' := 36) dX5_init_33 rfl fl_X5_21 rfl (fun _ _ _ z => (congrArg Prod.fst (Option.some.inj z)).symm) (Or.inr ⟨_, rfl⟩) rfl h_7.1 h_7.2 ?_
  refine P_fd (S' := (j5iS8 S o)) (I' := (j5iM8 S o I)) rfl rfl ?_
  have h_8 : OB (j5iS8 S o) o (4, 0) := h_7
  refine P_aload0 (pc' := 37) dX5_init_36 rfl ?_
  refine P_bipush (pc' := 39) dX5_init_37 rfl (v := 9) rfl ?_
  refine P_newi (pc' := 41) (N := 9) dX5_init_39 rfl ac_int rfl (Nat.le_of_ble_eq_true rfl) (by show S.1 + 1 + 1 + 1 + 1 + 1 ≤ 900000; omega) ?_
  refine P_fd (S' := (j5iS9 S o)) (I' := (j5iM9 S o I)) rfl rfl ?_
  have h_9 : OB (j5iS9 S o) o (4, 0) := ob_n h_8
  refine P_putrF (pc' := 44) dX5_init_41 rfl fl_X5_24 rfl (fun _ _ _ z => (congrArg Prod.fst (Option.some.inj z)).symm) (Or.inr ⟨_, rfl⟩) rfl h_9.1 h_9.2 ?_
  refine P_fd (S' := (j5iS10 S o)) (I' := (j5iM10 S o I)) rfl rfl ?_
  have h_10 : OB (j5iS10 S o) o (4, 0) := h_9
  refine P_aload0 (pc' := 45) dX5_init_44 rfl ?_
  refine P_bipush (pc' := 47) dX5_init_45 rfl (v := 9) rfl ?_
  refine P_newi (pc' := 49) (N := 9) dX5_init_47 rfl ac_int rfl (Nat.le_of_ble_eq_true rfl) (by show S.1 + 1 + 1 + 1 + 1 + 1 + 1 ≤ 900000; omega) ?_
  refine P_fd (S' := (j5iS11 S o)) (I' := (j5iM11 S o I)) rfl rfl ?_
  have h_11 : OB (j5iS11 S o) o (4, 0) := ob_n h_10
  refine P_putrF (pc' := 52) dX5_init_49 rfl fl_X5_27 rfl (fun _ _ _ z => (congrArg Prod.fst (Option.some.inj z)).symm) (Or.inr ⟨_, rfl⟩) rfl h_11.1 h_11.2 ?_
  refine P_fd (S' := (j5iS12 S o)) (I' := (j5iM12 S o I)) rfl rfl ?_
  have h_12 : OB (j5iS12 S o) o (4, 0) := h_11
  refine P_aload0 (pc' := 53) dX5_init_52 rfl ?_
  refine P_iconst (pc' := 54) dX5_init_53 rfl (v := 0) rfl ?_
  refine P_puti (pc' := 57) dX5_init_54 rfl fl_X5_30 rfl h_12.1 h_12.2 ?_
  refine P_fd (S' := (j5iS13 S o)) (I' := (j5iM13 S o I)) rfl rfl ?_
  have h_13 : OB (j5iS13 S o) o (4, 0) := h_12
  refine P_aload0 (pc' := 58) dX5_init_57 rfl ?_
  refine P_bipush (pc' := 60) dX5_init_58 rfl (v := 20) rfl ?_
  refine P_puti (pc' := 63) dX5_init_60 rfl fl_X5_34 rfl h_13.1 h_13.2 ?_
  refine P_fd (S' := (j5iS14 S o)) (I' := (j5iM14 S o I)) rfl rfl ?_
  have h_14 : OB (j5iS14 S o) o (4, 0) := h_13
  refine P_aload0 (pc' := 64) dX5_init_63 rfl ?_
  refine P_iconst (pc' := 65) dX5_init_64 rfl (v := 0) rfl ?_
  refine P_putz (pc' := 68) dX5_init_65 rfl fl_X5_37 rfl h_14.1 h_14.2 (Or.inl rfl) ?_
  refine P_fd (S' := (j5iS15 S o)) (I' := (j5iM15 S o I)) rfl rfl ?_
  have h_15 : OB (j5iS15 S o) o (4, 0) := h_14
  refine P_aload0 (pc' := 69) dX5_init_68 rfl ?_
  refine P_bipush (pc' := 71) dX5_init_69 rfl (v := 8) rfl ?_
  refine P_puti (pc' := 74) dX5_init_71 rfl fl_X5_41 rfl h_15.1 h_15.2 ?_
  refine P_fd (S' := (j5iS16 S o)) (I' := (j5iM16 S o I)) rfl rfl ?_
  have h_16 : OB (j5iS16 S o) o (4, 0) := h_15
  refine P_aload0 (pc' := 75) dX5_init_74 rfl ?_
  refine P_iconst (pc' := 76) dX5_init_75 rfl (v := 0) rfl ?_
  refine P_puti (pc' := 79) dX5_init_76 rfl fl_X5_44 rfl h_16.1 h_16.2 ?_
  refine P_fd (S' := (j5iS17 S o)) (I' := (j5iM17 S o I)) rfl rfl ?_
  have h_17 : OB (j5iS17 S o) o (4, 0) := h_16
  refine P_aload0 (pc' := 80) dX5_init_79 rfl ?_
  refine P_iconst (pc' := 81) dX5_init_80 rfl (v := 0) rfl ?_
  refine P_puti (pc' := 84) dX5_init_81 rfl fl_X5_47 rfl h_17.1 h_17.2 ?_
  refine P_fd (S' := (j5iS18 S o)) (I' := (j5iM18 S o I)) rfl rfl ?_
  have h_18 : OB (j5iS18 S o) o (4, 0) := h_17
  refine P_aload0 (pc' := 85) dX5_init_84 rfl ?_
  refine P_iconst (pc' := 86) dX5_init_85 rfl (v := 1) rfl ?_
  refine P_puti (pc' := 89) dX5_init_86 rfl fl_X5_50 rfl h_18.1 h_18.2 ?_
  refine P_fd (S' := (j5iS19 S o)) (I' := (j5iM19 S o I)) rfl rfl ?_
  have h_19 : OB (j5iS19 S o) o (4, 0) := h_18
  refine P_aload0 (pc' := 90) dX5_init_89 rfl ?_
  refine P_iconst (pc' := 91) dX5_init_90 rfl (v := 0) rfl ?_
  refine P_puti (pc' := 94) dX5_init_91 rfl fl_X5_53 rfl h_19.1 h_19.2 ?_
  refine P_fd (S' := (j5iS20 S o)) (I' := (j5iM20 S o I)) rfl rfl ?_
  have h_20 : OB (j5iS20 S o) o (4, 0) := h_19
  refine P_vret dX5_init_94 ?_
  exact ⟨rfl, rfl, rfl⟩
def j6iS1 (S : Shp) (o : Nat) : Shp := nS S (10, 96)
def j6iM1 (S : Shp) (o : Nat) (I : Mem) : Mem := nM S I
theorem j6iB1 {S : Shp} {o : Nat} (h : NB S) : NB (j6iS1 S o) := nb_n h
def j6iS2 (S : Shp) (o : Nat) : Shp := ((j6iS1 S o).1, (j6iS1 S o).2.1, p2 (j6iS1 S o).2.2 o 0 (some S.1))
def j6iM2 (S : Shp) (o : Nat) (I : Mem) : Mem := (j6iM1 S o I)
theorem j6iB2 {S : Shp} {o : Nat} (h : NB S) : NB (j6iS2 S o) := nb_p (j6iB1 h) (by decide)
def j6iS3 (S : Shp) (o : Nat) : Shp := (j6iS2 S o)
def j6iM3 (S : Shp) (o : Nat) (I : Mem) : Mem := u2 (j6iM2 S o I) o 1 0
theorem j6iB3 {S : Shp} {o : Nat} (h : NB S) : NB (j6iS3 S o) := (j6iB2 h)
theorem j6iO {S : Shp} {o x : Nat} {q : Nat × Nat} (h : OB S x q) : OB (j6iS3 S o) x q := ob_n h
theorem c_X6_init {G : GX} {S : Shp} {I : Mem} {d o : Nat} (h_0 : OB S o (5, 0)) (cap : S.1 + 1 ≤ 3000) (hd : 1 ≤ d) : PM G yX6_init cX6_init 1 none d 1 96 [.ref o] S I (fun r S' J => r = none ∧ S' = j6iS3 S o ∧ J = j6iM3 S o I) := by
  refine PM.of (ls := [some (.ref o)]) (by decide) rfl (Nat.le_of_ble_eq_true rfl) rfl ?_
  show PW G RX6 "<init>" _ _ _ _ _ _ _ _ _ _ _ _
  refine PW.room (d := d) (kc := (0 + 1)) (ks := (0 + 96)) ?_ (Nat.le_refl _) (by decide +kernel) (by decide +kernel)
  refine P_aload0 (pc' := 1) dX6_init_0 rfl ?_
  refine P_objInit (pc' := 4) dX6_init_1 rfl lk_X6_3 (by omega) (Nat.le_of_ble_eq_true rfl) ?_
  refine P_aload0 (pc' := 5) dX6_init_4 rfl ?_
  refine P_bipush (pc' := 7) dX6_init_5 rfl (v := 96) rfl ?_
  refine P_newb (pc' := 9) (N := 96) dX6_init_7 rfl ac_byte rfl (Nat.le_of_ble_eq_true rfl) (by show S.1 + 1 ≤ 900000; omega) ?_
  refine P_fd (S' := (j6iS1 S o)) (I' := (j6iM1 S o I)) rfl rfl ?_
  have h_1 : OB (j6iS1 S o) o (5, 0) := ob_n h_0
  refine P_putrF (pc' := 12) dX6_init_9 rfl fl_X6_9 rfl (fun _ _ _ z => (congrArg Prod.fst (Option.some.inj z)).symm) (Or.inr ⟨_, rfl⟩) rfl h_1.1 h_1.2 ?_
  refine P_fd (S' := (j6iS2 S o)) (I' := (j6iM2 S o I)) rfl rfl ?_
  have h_2 : OB (j6iS2 S o) o (5, 0) := h_1
  refine P_aload0 (pc' := 13) dX6_init_12 rfl ?_
  refine P_iconst (pc' := 14) dX6_init_13 rfl (v := 0) rfl ?_
  refine P_puti (pc' := 17) dX6_init_14 rfl fl_X6_15 rfl h_2.1 h_2.2 ?_
  refine P_fd (S' := (j6iS3 S o)) (I' := (j6iM3 S o I)) rfl rfl ?_
  have h_3 : OB (j6iS3 S o) o (5, 0) := h_2
  refine P_vret dX6_init_17 ?_
  exact ⟨rfl, rfl, rfl⟩
def j0iS1 (S : Shp) (o : Nat) : Shp := (S.1, S.2.1, p2 S.2.2 o 0 none)
def j0iM1 (S : Shp) (o : Nat) (I : Mem) : Mem := I
theorem j0iB1 {S : Shp} {o : Nat} (h : NB S) : NB (j0iS1 S o) := nb_p h (by decide)
def j0iS2 (S : Shp) (o : Nat) : Shp := nS (j0iS1 S o) (9, 1890)
def j0iM2 (S : Shp) (o : Nat) (I : Mem) : Mem := nM (j0iS1 S o) (j0iM1 S o I)
theorem j0iB2 {S : Shp} {o : Nat} (h : NB S) : NB (j0iS2 S o) := nb_n (j0iB1 h)
def j0iS3 (S : Shp) (o : Nat) : Shp := ((j0iS2 S o).1, (j0iS2 S o).2.1, p2 (j0iS2 S o).2.2 o 1 (some (j0iS1 S o).1))
def j0iM3 (S : Shp) (o : Nat) (I : Mem) : Mem := (j0iM2 S o I)
theorem j0iB3 {S : Shp} {o : Nat} (h : NB S) : NB (j0iS3 S o) := nb_p (j0iB2 h) (by decide)
theorem j0iO {S : Shp} {o x : Nat} {q : Nat × Nat} (h : OB S x q) : OB (j0iS3 S o) x q := ob_n h
theorem c_X0_init {G : GX} {S : Shp} {I : Mem} {d o : Nat} (h_0 : OB S o (0, 0)) (cap : S.1 + 1 ≤ 3000) (hd : 1 ≤ d) : PM G yX0_init cX0_init 1 none d 1 1890 [.ref o] S I (fun r S' J => r = none ∧ S' = j0iS3 S o ∧ J = j0iM3 S o I) := by
  refine PM.of (ls := [some (.ref o)]) (by decide) rfl (Nat.le_of_ble_eq_true rfl) rfl ?_
  show PW G RX0 "<init>" _ _ _ _ _ _ _ _ _ _ _ _
  refine PW.room (d := d) (kc := (0 + 1)) (ks := (0 + 1890)) ?_ (Nat.le_refl _) (by decide +kernel) (by decide +kernel)
  refine P_aload0 (pc' := 1) dX0_init_0 rfl ?_
  refine P_objInit (pc' := 4) dX0_init_1 rfl lk_X0_3 (by omega) (Nat.le_of_ble_eq_true rfl) ?_
  refine P_aload0 (pc' := 5) dX0_init_4 rfl ?_
  refine P_null (pc' := 6) dX0_init_5 rfl ?_
  refine P_putn (pc' := 9) dX0_init_6 rfl fl_X0_9 (Or.inl ⟨_, rfl⟩) rfl h_0.1 h_0.2 ?_
  refine P_fd (S' := (j0iS1 S o)) (I' := (j0iM1 S o I)) rfl rfl ?_
  have h_1 : OB (j0iS1 S o) o (0, 0) := h_0
  refine P_aload0 (pc' := 10) dX0_init_9 rfl ?_
  refine P_sipush (pc' := 13) dX0_init_10 rfl (v := 1890) rfl ?_
  refine P_newi (pc' := 15) (N := 1890) dX0_init_13 rfl ac_int rfl (Nat.le_of_ble_eq_true rfl) (by show S.1 + 1 ≤ 900000; omega) ?_
  refine P_fd (S' := (j0iS2 S o)) (I' := (j0iM2 S o I)) rfl rfl ?_
  have h_2 : OB (j0iS2 S o) o (0, 0) := ob_n h_1
  refine P_putrF (pc' := 18) dX0_init_15 rfl fl_X0_15 rfl (fun _ _ _ z => (congrArg Prod.fst (Option.some.inj z)).symm) (Or.inr ⟨_, rfl⟩) rfl h_2.1 h_2.2 ?_
  refine P_fd (S' := (j0iS3 S o)) (I' := (j0iM3 S o I)) rfl rfl ?_
  have h_3 : OB (j0iS3 S o) o (0, 0) := h_2
  refine P_vret dX0_init_18 ?_
  exact ⟨rfl, rfl, rfl⟩
def j3iS1 (S : Shp) (o : Nat) : Shp := S
def j3iM1 (S : Shp) (o : Nat) (I : Mem) : Mem := u2 I o 0 (-1)
theorem j3iB1 {S : Shp} {o : Nat} (h : NB S) : NB (j3iS1 S o) := h
def j3iS2 (S : Shp) (o : Nat) : Shp := (j3iS1 S o)
def j3iM2 (S : Shp) (o : Nat) (I : Mem) : Mem := u2 (j3iM1 S o I) o 1 0
theorem j3iB2 {S : Shp} {o : Nat} (h : NB S) : NB (j3iS2 S o) := (j3iB1 h)
def j3iS3 (S : Shp) (o : Nat) : Shp := nS (j3iS2 S o) (9, 24)
def j3iM3 (S : Shp) (o : Nat) (I : Mem) : Mem := nM (j3iS2 S o) (j3iM2 S o I)
theorem j3iB3 {S : Shp} {o : Nat} (h : NB S) : NB (j3iS3 S o) := nb_n (j3iB2 h)
def j3iS4 (S : Shp) (o : Nat) : Shp := ((j3iS3 S o).1, (j3iS3 S o).2.1, p2 (j3iS3 S o).2.2 o 2 (some (j3iS2 S o).1))
def j3iM4 (S : Shp) (o : Nat) (I : Mem) : Mem := (j3iM3 S o I)
theorem j3iB4 {S : Shp} {o : Nat} (h : NB S) : NB (j3iS4 S o) := nb_p (j3iB3 h) (by decide)
theorem j3iO {S : Shp} {o x : Nat} {q : Nat × Nat} (h : OB S x q) : OB (j3iS4 S o) x q := ob_n h
theorem c_X3_init {G : GX} {S : Shp} {I : Mem} {d o : Nat} (h_0 : OB S o (2, 0)) (cap : S.1 + 1 ≤ 3000) (hd : 1 ≤ d) : PM G yX3_init cX3_init 1 none d 1 24 [.ref o] S I (fun r S' J => r = none ∧ S' = j3iS4 S o ∧ J = j3iM4 S o I) := by
  refine PM.of (ls := [some (.ref o)]) (by decide) rfl (Nat.le_of_ble_eq_true rfl) rfl ?_
  show PW G RX3 "<init>" _ _ _ _ _ _ _ _ _ _ _ _
  refine PW.room (d := d) (kc := (0 + 1)) (ks := (0 + 24)) ?_ (Nat.le_refl _) (by decide +kernel) (by decide +kernel)
  refine P_aload0 (pc' := 1) dX3_init_0 rfl ?_
  refine P_objInit (pc' := 4) dX3_init_1 rfl lk_X3_3 (by omega) (Nat.le_of_ble_eq_true rfl) ?_
  refine P_aload0 (pc' := 5) dX3_init_4 rfl ?_
  refine P_iconst (pc' := 6) dX3_init_5 rfl (v := (-1)) rfl ?_
  refine P_puti (pc' := 9) dX3_init_6 rfl fl_X3_9 rfl h_0.1 h_0.2 ?_
  refine P_fd (S' := (j3iS1 S o)) (I' := (j3iM1 S o I)) rfl rfl ?_
  have h_1 : OB (j3iS1 S o) o (2, 0) := h_0
  refine P_aload0 (pc' := 10) dX3_init_9 rfl ?_
  refine P_iconst (pc' := 11) dX3_init_10 rfl (v := 0) rfl ?_
  refine P_puti (pc' := 14) dX3_init_11 rfl fl_X3_15 rfl h_1.1 h_1.2 ?_
  refine P_fd (S' := (j3iS2 S o)) (I' := (j3iM2 S o I)) rfl rfl ?_
  have h_2 : OB (j3iS2 S o) o (2, 0) := h_1
  refine P_aload0 (pc' := 15) dX3_init_14 rfl ?_
  refine P_bipush (pc' := 17) dX3_init_15 rfl (v := 24) rfl ?_
  refine P_newi (pc' := 19) (N := 24) dX3_init_17 rfl ac_int rfl (Nat.le_of_ble_eq_true rfl) (by show S.1 + 1 ≤ 900000; omega) ?_
  refine P_fd (S' := (j3iS3 S o)) (I' := (j3iM3 S o I)) rfl rfl ?_
  have h_3 : OB (j3iS3 S o) o (2, 0) := ob_n h_2
  refine P_putrF (pc' := 22) dX3_init_19 rfl fl_X3_18 rfl (fun _ _ _ z => (congrArg Prod.fst (Option.some.inj z)).symm) (Or.inr ⟨_, rfl⟩) rfl h_3.1 h_3.2 ?_
  refine P_fd (S' := (j3iS4 S o)) (I' := (j3iM4 S o I)) rfl rfl ?_
  have h_4 : OB (j3iS4 S o) o (2, 0) := h_3
  refine P_vret dX3_init_22 ?_
  exact ⟨rfl, rfl, rfl⟩
def j2iS1 (S : Shp) (o : Nat) : Shp := nS S (5, 0)
def j2iM1 (S : Shp) (o : Nat) (I : Mem) : Mem := nM S I
theorem j2iB1 {S : Shp} {o : Nat} (h : NB S) : NB (j2iS1 S o) := nb_n h
def j2iS2 (S : Shp) (o : Nat) : Shp := j6iS3 (j2iS1 S o) (S.1)
def j2iM2 (S : Shp) (o : Nat) (I : Mem) : Mem := j6iM3 (j2iS1 S o) (S.1) (j2iM1 S o I)
theorem j2iB2 {S : Shp} {o : Nat} (h : NB S) : NB (j2iS2 S o) := j6iB3 (j2iB1 h)
def j2iS3 (S : Shp) (o : Nat) : Shp := ((j2iS2 S o).1, (j2iS2 S o).2.1, p2 (j2iS2 S o).2.2 o 0 (some S.1))
def j2iM3 (S : Shp) (o : Nat) (I : Mem) : Mem := (j2iM2 S o I)
theorem j2iB3 {S : Shp} {o : Nat} (h : NB S) : NB (j2iS3 S o) := nb_p (j2iB2 h) (by decide)
def j2iS4 (S : Shp) (o : Nat) : Shp := (j2iS3 S o)
def j2iM4 (S : Shp) (o : Nat) (I : Mem) : Mem := u2 (j2iM3 S o I) o 1 3
theorem j2iB4 {S : Shp} {o : Nat} (h : NB S) : NB (j2iS4 S o) := (j2iB3 h)
def j2iS5 (S : Shp) (o : Nat) : Shp := (j2iS4 S o)
def j2iM5 (S : Shp) (o : Nat) (I : Mem) : Mem := u2 (j2iM4 S o I) o 2 0
theorem j2iB5 {S : Shp} {o : Nat} (h : NB S) : NB (j2iS5 S o) := (j2iB4 h)
def j2iS6 (S : Shp) (o : Nat) : Shp := (j2iS5 S o)
def j2iM6 (S : Shp) (o : Nat) (I : Mem) : Mem := u2 (j2iM5 S o I) o 3 0
theorem j2iB6 {S : Shp} {o : Nat} (h : NB S) : NB (j2iS6 S o) := (j2iB5 h)
def j2iS7 (S : Shp) (o : Nat) : Shp := (j2iS6 S o)
def j2iM7 (S : Shp) (o : Nat) (I : Mem) : Mem := u2 (j2iM6 S o I) o 4 (-1)
theorem j2iB7 {S : Shp} {o : Nat} (h : NB S) : NB (j2iS7 S o) := (j2iB6 h)
def j2iS8 (S : Shp) (o : Nat) : Shp := (j2iS7 S o)
def j2iM8 (S : Shp) (o : Nat) (I : Mem) : Mem := u2 (j2iM7 S o I) o 5 0
theorem j2iB8 {S : Shp} {o : Nat} (h : NB S) : NB (j2iS8 S o) := (j2iB7 h)
def j2iS9 (S : Shp) (o : Nat) : Shp := nS (j2iS8 S o) (9, 96)
def j2iM9 (S : Shp) (o : Nat) (I : Mem) : Mem := nM (j2iS8 S o) (j2iM8 S o I)
theorem j2iB9 {S : Shp} {o : Nat} (h : NB S) : NB (j2iS9 S o) := nb_n (j2iB8 h)
def j2iS10 (S : Shp) (o : Nat) : Shp := ((j2iS9 S o).1, (j2iS9 S o).2.1, p2 (j2iS9 S o).2.2 o 6 (some (j2iS8 S o).1))
def j2iM10 (S : Shp) (o : Nat) (I : Mem) : Mem := (j2iM9 S o I)
theorem j2iB10 {S : Shp} {o : Nat} (h : NB S) : NB (j2iS10 S o) := nb_p (j2iB9 h) (by decide)
def j2iS11 (S : Shp) (o : Nat) : Shp := (j2iS10 S o)
def j2iM11 (S : Shp) (o : Nat) (I : Mem) : Mem := u2 (j2iM10 S o I) o 7 0
theorem j2iB11 {S : Shp} {o : Nat} (h : NB S) : NB (j2iS11 S o) := (j2iB10 h)
def j2iS12 (S : Shp) (o : Nat) : Shp := (j2iS11 S o)
def j2iM12 (S : Shp) (o : Nat) (I : Mem) : Mem := u2 (j2iM11 S o I) o 8 0
theorem j2iB12 {S : Shp} {o : Nat} (h : NB S) : NB (j2iS12 S o) := (j2iB11 h)
theorem j2iO {S : Shp} {o x : Nat} {q : Nat × Nat} (h : OB S x q) : OB (j2iS12 S o) x q := ob_n (j6iO (o := (S.1)) (ob_n h))
theorem c_X2_init {G : GX} {S : Shp} {I : Mem} {d o : Nat} (h_0 : OB S o (1, 0)) (cap : S.1 + 3 ≤ 3000) (hd : 2 ≤ d) : PM G yX2_init cX2_init 1 none d 3 194 [.ref o] S I (fun r S' J => r = none ∧ S' = j2iS12 S o ∧ J = j2iM12 S o I) := by
  refine PM.of (ls := [some (.ref o)]) (by decide) rfl (Nat.le_of_ble_eq_true rfl) rfl ?_
  show PW G RX2 "<init>" _ _ _ _ _ _ _ _ _ _ _ _
  refine PW.room (d := d) (kc := (((0 + 1) + 1) + 1)) (ks := (((0 + 96) + 96) + nFl 5)) ?_ (Nat.le_refl _) (by decide +kernel) (by decide +kernel)
  refine P_aload0 (pc' := 1) dX2_init_0 rfl ?_
  refine P_objInit (pc' := 4) dX2_init_1 rfl lk_X2_3 (by omega) (Nat.le_of_ble_eq_true rfl) ?_
  refine P_aload0 (pc' := 5) dX2_init_4 rfl ?_
  refine P_new (pc' := 8) dX2_init_5 rfl cl_X2_9 (by show S.1 + 1 ≤ 900000; omega) ?_
  refine P_fd (S' := (j2iS1 S o)) (I' := (j2iM1 S o I)) rfl rfl ?_
  have h_1 : OB (j2iS1 S o) o (1, 0) := ob_n h_0
  have g1_1 : OB (j2iS1 S o) S.1 (5, 0) := ob_w _ _
  refine P_dup (pc' := 9) dX2_init_8 rfl rfl ?_
  refine P_callIN0 (pc' := 12) dX2_init_9 rfl lk_X2_11 (c_X6_init (d := 1) (S := (j2iS1 S o)) (I := (j2iM1 S o I)) (o := S.1) ⟨g1_1.1, g1_1.2⟩ (by show S.1 + 1 + 1 ≤ 3000; omega) (by decide)) (by omega) (Nat.le_of_ble_eq_true rfl) (fun r S' I' hq => ?_)
  obtain ⟨rfl, rfl, rfl⟩ := hq
  refine P_fd (S' := (j2iS2 S o)) (I' := (j2iM2 S o I)) rfl rfl ?_
  have h_2 : OB (j2iS2 S o) o (1, 0) := j6iO h_1
  have g1_2 : OB (j2iS2 S o) S.1 (5, 0) := j6iO g1_1
  refine P_putrF (pc' := 15) dX2_init_12 rfl fl_X2_12 rfl (fun _ _ _ z => (congrArg Prod.fst (Option.some.inj z)).symm) (Or.inl ⟨_, rfl⟩) rfl h_2.1 h_2.2 ?_
  refine P_fd (S' := (j2iS3 S o)) (I' := (j2iM3 S o I)) rfl rfl ?_
  have h_3 : OB (j2iS3 S o) o (1, 0) := h_2
  have g1_3 : OB (j2iS3 S o) S.1 (5, 0) := g1_2
  refine P_aload0 (pc' := 16) dX2_init_15 rfl ?_
  refine P_iconst (pc' := 17) dX2_init_16 rfl (v := 3) rfl ?_
  refine P_puti (pc' := 20) dX2_init_17 rfl fl_X2_18 rfl h_3.1 h_3.2 ?_
  refine P_fd (S' := (j2iS4 S o)) (I' := (j2iM4 S o I)) rfl rfl ?_
  have h_4 : OB (j2iS4 S o) o (1, 0) := h_3
  have g1_4 : OB (j2iS4 S o) S.1 (5, 0) := g1_3
  refine P_aload0 (pc' := 21) dX2_init_20 rfl ?_
  refine P_iconst (pc' := 22) dX2_init_21 rfl (v := 0) rfl ?_
  refine P_puti (pc' := 25) dX2_init_22 rfl fl_X2_22 rfl h_4.1 h_4.2 ?_
  refine P_fd (S' := (j2iS5 S o)) (I' := (j2iM5 S o I)) rfl rfl ?_
  have h_5 : OB (j2iS5 S o) o (1, 0) := h_4
  have g1_5 : OB (j2iS5 S o) S.1 (5, 0) := g1_4
  refine P_aload0 (pc' := 26) dX2_init_25 rfl ?_
  refine P_iconst (pc' := 27) dX2_init_26 rfl (v := 0) rfl ?_
  refine P_puti (pc' := 30) dX2_init_27 rfl fl_X2_25 rfl h_5.1 h_5.2 ?_
  refine P_fd (S' := (j2iS6 S o)) (I' := (j2iM6 S o I)) rfl rfl ?_
  have h_6 : OB (j2iS6 S o) o (1, 0) := h_5
  have g1_6 : OB (j2iS6 S o) S.1 (5, 0) := g1_5
  refine P_aload0 (pc' := 31) dX2_init_30 rfl ?_
  refine P_iconst (pc' := 32) dX2_init_31 rfl (v := (-1)) rfl ?_
  refine P_puti (pc' := 35) dX2_init_32 rfl fl_X2_28 rfl h_6.1 h_6.2 ?_
  refine P_fd (S' := (j2iS7 S o)) (I' := (j2iM7 S o I)) rfl rfl ?_
  have h_7 : OB (j2iS7 S o) o (1, 0) := h_6
  have g1_7 : OB (j2iS7 S o) S.1 (5, 0) := g1_6
  refine P_aload0 (pc' := 36) dX2_init_35 rfl ?_
  refine P_iconst (pc' := 37) dX2_init_36 rfl (v := 0) rfl ?_
  refine P_puti (pc' := 40) dX2_init_37 rfl fl_X2_31 rfl h_7.1 h_7.2 ?_
  refine P_fd (S' := (j2iS8 S o)) (I' := (j2iM8 S o I)) rfl rfl ?_
  have h_8 : OB (j2iS8 S o) o (1, 0) := h_7
  have g1_8 : OB (j2iS8 S o) S.1 (5, 0) := g1_7
  refine P_aload0 (pc' := 41) dX2_init_40 rfl ?_
  refine P_bipush (pc' := 43) dX2_init_41 rfl (v := 96) rfl ?_
  refine P_newi (pc' := 45) (N := 96) dX2_init_43 rfl ac_int rfl (Nat.le_of_ble_eq_true rfl) (by show S.1 + 1 + 1 + 1 ≤ 900000; omega) ?_
  refine P_fd (S' := (j2iS9 S o)) (I' := (j2iM9 S o I)) rfl rfl ?_
  have h_9 : OB (j2iS9 S o) o (1, 0) := ob_n h_8
  have g1_9 : OB (j2iS9 S o) S.1 (5, 0) := ob_n g1_8
  refine P_putrF (pc' := 48) dX2_init_45 rfl fl_X2_34 rfl (fun _ _ _ z => (congrArg Prod.fst (Option.some.inj z)).symm) (Or.inr ⟨_, rfl⟩) rfl h_9.1 h_9.2 ?_
  refine P_fd (S' := (j2iS10 S o)) (I' := (j2iM10 S o I)) rfl rfl ?_
  have h_10 : OB (j2iS10 S o) o (1, 0) := h_9
  have g1_10 : OB (j2iS10 S o) S.1 (5, 0) := g1_9
  refine P_aload0 (pc' := 49) dX2_init_48 rfl ?_
  refine P_iconst (pc' := 50) dX2_init_49 rfl (v := 0) rfl ?_
  refine P_puti (pc' := 53) dX2_init_50 rfl fl_X2_38 rfl h_10.1 h_10.2 ?_
  refine P_fd (S' := (j2iS11 S o)) (I' := (j2iM11 S o I)) rfl rfl ?_
  have h_11 : OB (j2iS11 S o) o (1, 0) := h_10
  have g1_11 : OB (j2iS11 S o) S.1 (5, 0) := g1_10
  refine P_aload0 (pc' := 54) dX2_init_53 rfl ?_
  refine P_iconst (pc' := 55) dX2_init_54 rfl (v := 0) rfl ?_
  refine P_puti (pc' := 58) dX2_init_55 rfl fl_X2_41 rfl h_11.1 h_11.2 ?_
  refine P_fd (S' := (j2iS12 S o)) (I' := (j2iM12 S o I)) rfl rfl ?_
  have h_12 : OB (j2iS12 S o) o (1, 0) := h_11
  have g1_12 : OB (j2iS12 S o) S.1 (5, 0) := g1_11
  refine P_vret dX2_init_58 ?_
  exact ⟨rfl, rfl, rfl⟩
def j4iS1 (S : Shp) (o : Nat) : Shp := S
def j4iM1 (S : Shp) (o : Nat) (I : Mem) : Mem := u2 I o 0 0
theorem j4iB1 {S : Shp} {o : Nat} (h : NB S) : NB (j4iS1 S o) := h
def j4iS2 (S : Shp) (o : Nat) : Shp := (j4iS1 S o)
def j4iM2 (S : Shp) (o : Nat) (I : Mem) : Mem := u2 (j4iM1 S o I) o 1 0
theorem j4iB2 {S : Shp} {o : Nat} (h : NB S) : NB (j4iS2 S o) := (j4iB1 h)
def j4iS3 (S : Shp) (o : Nat) : Shp := (j4iS2 S o)
def j4iM3 (S : Shp) (o : Nat) (I : Mem) : Mem := u2 (j4iM2 S o I) o 2 0
theorem j4iB3 {S : Shp} {o : Nat} (h : NB S) : NB (j4iS3 S o) := (j4iB2 h)
def j4iS4 (S : Shp) (o : Nat) : Shp := (j4iS3 S o)
def j4iM4 (S : Shp) (o : Nat) (I : Mem) : Mem := u2 (j4iM3 S o I) o 3 0
theorem j4iB4 {S : Shp} {o : Nat} (h : NB S) : NB (j4iS4 S o) := (j4iB3 h)
def j4iS5 (S : Shp) (o : Nat) : Shp := nS (j4iS4 S o) (2, 0)
def j4iM5 (S : Shp) (o : Nat) (I : Mem) : Mem := nM (j4iS4 S o) (j4iM4 S o I)
theorem j4iB5 {S : Shp} {o : Nat} (h : NB S) : NB (j4iS5 S o) := nb_n (j4iB4 h)
def j4iS6 (S : Shp) (o : Nat) : Shp := j3iS4 (j4iS5 S o) ((j4iS4 S o).1)
def j4iM6 (S : Shp) (o : Nat) (I : Mem) : Mem := j3iM4 (j4iS5 S o) ((j4iS4 S o).1) (j4iM5 S o I)
theorem j4iB6 {S : Shp} {o : Nat} (h : NB S) : NB (j4iS6 S o) := j3iB4 (j4iB5 h)
def j4iS7 (S : Shp) (o : Nat) : Shp := ((j4iS6 S o).1, (j4iS6 S o).2.1, p2 (j4iS6 S o).2.2 o 4 (some (j4iS4 S o).1))
def j4iM7 (S : Shp) (o : Nat) (I : Mem) : Mem := (j4iM6 S o I)
theorem j4iB7 {S : Shp} {o : Nat} (h : NB S) : NB (j4iS7 S o) := nb_p (j4iB6 h) (by decide)
theorem j4iO {S : Shp} {o x : Nat} {q : Nat × Nat} (h : OB S x q) : OB (j4iS7 S o) x q := j3iO (o := ((j4iS4 S o).1)) (ob_n h)
theorem c_X4_init {G : GX} {S : Shp} {I : Mem} {d o : Nat} (h_0 : OB S o (3, 0)) (cap : S.1 + 2 ≤ 3000) (hd : 2 ≤ d) : PM G yX4_init cX4_init 1 none d 2 27 [.ref o] S I (fun r S' J => r = none ∧ S' = j4iS7 S o ∧ J = j4iM7 S o I) := by
  refine PM.of (ls := [some (.ref o)]) (by decide) rfl (Nat.le_of_ble_eq_true rfl) rfl ?_
  show PW G RX4 "<init>" _ _ _ _ _ _ _ _ _ _ _ _
  refine PW.room (d := d) (kc := ((0 + 1) + 1)) (ks := ((0 + 24) + nFl 2)) ?_ (Nat.le_refl _) (by decide +kernel) (by decide +kernel)
  refine P_aload0 (pc' := 1) dX4_init_0 rfl ?_
  refine P_objInit (pc' := 4) dX4_init_1 rfl lk_X4_3 (by omega) (Nat.le_of_ble_eq_true rfl) ?_
  refine P_aload0 (pc' := 5) dX4_init_4 rfl ?_
  refine P_iconst (pc' := 6) dX4_init_5 rfl (v := 0) rfl ?_
  refine P_puti (pc' := 9) dX4_init_6 rfl fl_X4_9 rfl h_0.1 h_0.2 ?_
  refine P_fd (S' := (j4iS1 S o)) (I' := (j4iM1 S o I)) rfl rfl ?_
  have h_1 : OB (j4iS1 S o) o (3, 0) := h_0
  refine P_aload0 (pc' := 10) dX4_init_9 rfl ?_
  refine P_iconst (pc' := 11) dX4_init_10 rfl (v := 0) rfl ?_
  refine P_puti (pc' := 14) dX4_init_11 rfl fl_X4_15 rfl h_1.1 h_1.2 ?_
  refine P_fd (S' := (j4iS2 S o)) (I' := (j4iM2 S o I)) rfl rfl ?_
  have h_2 : OB (j4iS2 S o) o (3, 0) := h_1
  refine P_aload0 (pc' := 15) dX4_init_14 rfl ?_
  refine P_iconst (pc' := 16) dX4_init_15 rfl (v := 0) rfl ?_
  refine P_puti (pc' := 19) dX4_init_16 rfl fl_X4_18 rfl h_2.1 h_2.2 ?_
  refine P_fd (S' := (j4iS3 S o)) (I' := (j4iM3 S o I)) rfl rfl ?_
  have h_3 : OB (j4iS3 S o) o (3, 0) := h_2
  refine P_aload0 (pc' := 20) dX4_init_19 rfl ?_
  refine P_iconst (pc' := 21) dX4_init_20 rfl (v := 0) rfl ?_
  refine P_puti (pc' := 24) dX4_init_21 rfl fl_X4_21 rfl h_3.1 h_3.2 ?_
  refine P_fd (S' := (j4iS4 S o)) (I' := (j4iM4 S o I)) rfl rfl ?_
  have h_4 : OB (j4iS4 S o) o (3, 0) := h_3
  refine P_aload0 (pc' := 25) dX4_init_24 rfl ?_
  refine P_new (pc' := 28) dX4_init_25 rfl cl_X4_24 (by show S.1 + 1 ≤ 900000; omega) ?_
  refine P_fd (S' := (j4iS5 S o)) (I' := (j4iM5 S o I)) rfl rfl ?_
  have h_5 : OB (j4iS5 S o) o (3, 0) := ob_n h_4
  have g5_5 : OB (j4iS5 S o) (j4iS4 S o).1 (2, 0) := ob_w _ _
  refine P_dup (pc' := 29) dX4_init_28 rfl rfl ?_
  refine P_callIN0 (pc' := 32) dX4_init_29 rfl lk_X4_26 (c_X3_init (d := 1) (S := (j4iS5 S o)) (I := (j4iM5 S o I)) (o := (j4iS4 S o).1) ⟨g5_5.1, g5_5.2⟩ (by show S.1 + 1 + 1 ≤ 3000; omega) (by decide)) (by omega) (Nat.le_of_ble_eq_true rfl) (fun r S' I' hq => ?_)
  obtain ⟨rfl, rfl, rfl⟩ := hq
  refine P_fd (S' := (j4iS6 S o)) (I' := (j4iM6 S o I)) rfl rfl ?_
  have h_6 : OB (j4iS6 S o) o (3, 0) := j3iO h_5
  have g5_6 : OB (j4iS6 S o) (j4iS4 S o).1 (2, 0) := j3iO g5_5
  refine P_putrF (pc' := 35) dX4_init_32 rfl fl_X4_27 rfl (fun _ _ _ z => (congrArg Prod.fst (Option.some.inj z)).symm) (Or.inl ⟨_, rfl⟩) rfl h_6.1 h_6.2 ?_
  refine P_fd (S' := (j4iS7 S o)) (I' := (j4iM7 S o I)) rfl rfl ?_
  have h_7 : OB (j4iS7 S o) o (3, 0) := h_6
  have g5_7 : OB (j4iS7 S o) (j4iS4 S o).1 (2, 0) := g5_6
  refine P_vret dX4_init_35 ?_
  exact ⟨rfl, rfl, rfl⟩
