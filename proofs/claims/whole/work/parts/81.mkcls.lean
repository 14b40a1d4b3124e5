/-! the class is made -/
def zS : Shp := (0, fun _ => (0, 0), fun _ _ => none)
def zM : Mem := fun _ _ => 0
theorem zB : NB zS := fun _ _ _ => rfl
def k8S0 : Shp := nS zS (7, 0)
def k8M0 : Mem := nM zS zM
theorem k8B0 : NB k8S0 := nb_n zB
def k8S1 : Shp := nS k8S0 (4, 0)
def k8M1 : Mem := nM k8S0 k8M0
theorem k8B1 : NB (k8S1) := nb_n k8B0
def k8S2 : Shp := j5iS20 k8S1 1
def k8M2 : Mem := j5iM20 k8S1 1 k8M1
theorem k8B2 : NB (k8S2) := j5iB20 k8B1
def k8S3 : Shp := (k8S2.1, k8S2.2.1, p2 k8S2.2.2 0 0 (some 1))
def k8M3 : Mem := k8M2
theorem k8B3 : NB (k8S3) := nb_p k8B2 (by decide)
def k8S4 : Shp := nS k8S3 (4, 0)
def k8M4 : Mem := nM k8S3 k8M3
theorem k8B4 : NB (k8S4) := nb_n k8B3
def k8S5 : Shp := j5iS20 k8S4 8
def k8M5 : Mem := j5iM20 k8S4 8 k8M4
theorem k8B5 : NB (k8S5) := j5iB20 k8B4
def k8S6 : Shp := (k8S5.1, k8S5.2.1, p2 k8S5.2.2 0 1 (some 8))
def k8M6 : Mem := k8M5
theorem k8B6 : NB (k8S6) := nb_p k8B5 (by decide)
def k8S7 : Shp := nS k8S6 (4, 0)
def k8M7 : Mem := nM k8S6 k8M6
theorem k8B7 : NB (k8S7) := nb_n k8B6
def k8S8 : Shp := j5iS20 k8S7 15
def k8M8 : Mem := j5iM20 k8S7 15 k8M7
theorem k8B8 : NB (k8S8) := j5iB20 k8B7
def k8S9 : Shp := (k8S8.1, k8S8.2.1, p2 k8S8.2.2 0 2 (some 15))
def k8M9 : Mem := k8M8
theorem k8B9 : NB (k8S9) := nb_p k8B8 (by decide)
def k8S10 : Shp := k8S9
def k8M10 : Mem := u2 k8M9 0 3 0
theorem k8B10 : NB (k8S10) := k8B9
def k8S11 : Shp := nS k8S10 (1, 0)
def k8M11 : Mem := nM k8S10 k8M10
theorem k8B11 : NB (k8S11) := nb_n k8B10
def k8S12 : Shp := j2iS12 k8S11 22
def k8M12 : Mem := j2iM12 k8S11 22 k8M11
theorem k8B12 : NB (k8S12) := j2iB12 k8B11
def k8S13 : Shp := (k8S12.1, k8S12.2.1, p2 k8S12.2.2 0 4 (some 22))
def k8M13 : Mem := k8M12
theorem k8B13 : NB (k8S13) := nb_p k8B12 (by decide)
def k8S14 : Shp := (k8S13.1, k8S13.2.1, p2 k8S13.2.2 0 5 (some 23))
def k8M14 : Mem := k8M13
theorem k8B14 : NB (k8S14) := nb_p k8B13 (by decide)
def k8S15 : Shp := nS k8S14 (15, 14)
def k8M15 : Mem := nM k8S14 k8M14
theorem k8B15 : NB (k8S15) := nb_n k8B14
def k8S16 : Shp := (k8S15.1, k8S15.2.1, p2 k8S15.2.2 0 6 (some 26))
def k8M16 : Mem := k8M15
theorem k8B16 : NB (k8S16) := nb_p k8B15 (by decide)
def k8S17 : Shp := nS k8S16 (0, 0)
def k8M17 : Mem := nM k8S16 k8M16
theorem k8B17 : NB (k8S17) := nb_n k8B16
def k8S18 : Shp := j0iS3 k8S17 27
def k8M18 : Mem := j0iM3 k8S17 27 k8M17
theorem k8B18 : NB (k8S18) := j0iB3 k8B17
def k8S19 : Shp := (k8S18.1, k8S18.2.1, p2 k8S18.2.2 0 7 (some 27))
def k8M19 : Mem := k8M18
theorem k8B19 : NB (k8S19) := nb_p k8B18 (by decide)
def k8S20 : Shp := nS k8S19 (13, 4)
def k8M20 : Mem := nM k8S19 k8M19
theorem k8B20 : NB (k8S20) := nb_n k8B19
def k8S21 : Shp := (k8S20.1, k8S20.2.1, p2 k8S20.2.2 0 8 (some 29))
def k8M21 : Mem := k8M20
theorem k8B21 : NB (k8S21) := nb_p k8B20 (by decide)
def k8S22 : Shp := nS k8S21 (14, 5)
def k8M22 : Mem := nM k8S21 k8M21
theorem k8B22 : NB (k8S22) := nb_n k8B21
def k8S23 : Shp := (k8S22.1, k8S22.2.1, p2 k8S22.2.2 0 9 (some 30))
def k8M23 : Mem := k8M22
theorem k8B23 : NB (k8S23) := nb_p k8B22 (by decide)
def k8S24 : Shp := nS k8S23 (9, 60)
def k8M24 : Mem := nM k8S23 k8M23
theorem k8B24 : NB (k8S24) := nb_n k8B23
def k8S25 : Shp := (k8S24.1, k8S24.2.1, p2 k8S24.2.2 0 10 (some 31))
def k8M25 : Mem := k8M24
theorem k8B25 : NB (k8S25) := nb_p k8B24 (by decide)
def k8S26 : Shp := k8S25
def k8M26 : Mem := u2 k8M25 0 11 0
theorem k8B26 : NB (k8S26) := k8B25
def k8S27 : Shp := nS k8S26 (2, 0)
def k8M27 : Mem := nM k8S26 k8M26
theorem k8B27 : NB (k8S27) := nb_n k8B26
def k8S28 : Shp := j3iS4 k8S27 32
def k8M28 : Mem := j3iM4 k8S27 32 k8M27
theorem k8B28 : NB (k8S28) := j3iB4 k8B27
def k8S29 : Shp := (k8S28.1, k8S28.2.1, p2 k8S28.2.2 29 0 (some 32))
def k8M29 : Mem := k8M28
theorem k8B29 : NB (k8S29) := nb_p k8B28 (by decide)
def k8S30 : Shp := nS k8S29 (2, 0)
def k8M30 : Mem := nM k8S29 k8M29
theorem k8B30 : NB (k8S30) := nb_n k8B29
def k8S31 : Shp := j3iS4 k8S30 34
def k8M31 : Mem := j3iM4 k8S30 34 k8M30
theorem k8B31 : NB (k8S31) := j3iB4 k8B30
def k8S32 : Shp := (k8S31.1, k8S31.2.1, p2 k8S31.2.2 29 1 (some 34))
def k8M32 : Mem := k8M31
theorem k8B32 : NB (k8S32) := nb_p k8B31 (by decide)
def k8S33 : Shp := nS k8S32 (2, 0)
def k8M33 : Mem := nM k8S32 k8M32
theorem k8B33 : NB (k8S33) := nb_n k8B32
def k8S34 : Shp := j3iS4 k8S33 36
def k8M34 : Mem := j3iM4 k8S33 36 k8M33
theorem k8B34 : NB (k8S34) := j3iB4 k8B33
def k8S35 : Shp := (k8S34.1, k8S34.2.1, p2 k8S34.2.2 29 2 (some 36))
def k8M35 : Mem := k8M34
theorem k8B35 : NB (k8S35) := nb_p k8B34 (by decide)
def k8S36 : Shp := nS k8S35 (2, 0)
def k8M36 : Mem := nM k8S35 k8M35
theorem k8B36 : NB (k8S36) := nb_n k8B35
def k8S37 : Shp := j3iS4 k8S36 38
def k8M37 : Mem := j3iM4 k8S36 38 k8M36
theorem k8B37 : NB (k8S37) := j3iB4 k8B36
def k8S38 : Shp := (k8S37.1, k8S37.2.1, p2 k8S37.2.2 29 3 (some 38))
def k8M38 : Mem := k8M37
theorem k8B38 : NB (k8S38) := nb_p k8B37 (by decide)
def k8S39 : Shp := nS k8S38 (3, 0)
def k8M39 : Mem := nM k8S38 k8M38
theorem k8B39 : NB (k8S39) := nb_n k8B38
def k8S40 : Shp := j4iS7 k8S39 40
def k8M40 : Mem := j4iM7 k8S39 40 k8M39
theorem k8B40 : NB (k8S40) := j4iB7 k8B39
def k8S41 : Shp := (k8S40.1, k8S40.2.1, p2 k8S40.2.2 30 0 (some 40))
def k8M41 : Mem := k8M40
theorem k8B41 : NB (k8S41) := nb_p k8B40 (by decide)
def k8S42 : Shp := nS k8S41 (3, 0)
def k8M42 : Mem := nM k8S41 k8M41
theorem k8B42 : NB (k8S42) := nb_n k8B41
def k8S43 : Shp := j4iS7 k8S42 43
def k8M43 : Mem := j4iM7 k8S42 43 k8M42
theorem k8B43 : NB (k8S43) := j4iB7 k8B42
def k8S44 : Shp := (k8S43.1, k8S43.2.1, p2 k8S43.2.2 30 1 (some 43))
def k8M44 : Mem := k8M43
theorem k8B44 : NB (k8S44) := nb_p k8B43 (by decide)
def k8S45 : Shp := nS k8S44 (3, 0)
def k8M45 : Mem := nM k8S44 k8M44
theorem k8B45 : NB (k8S45) := nb_n k8B44
def k8S46 : Shp := j4iS7 k8S45 46
def k8M46 : Mem := j4iM7 k8S45 46 k8M45
theorem k8B46 : NB (k8S46) := j4iB7 k8B45
def k8S47 : Shp := (k8S46.1, k8S46.2.1, p2 k8S46.2.2 30 2 (some 46))
def k8M47 : Mem := k8M46
theorem k8B47 : NB (k8S47) := nb_p k8B46 (by decide)
def k8S48 : Shp := nS k8S47 (3, 0)
def k8M48 : Mem := nM k8S47 k8M47
theorem k8B48 : NB (k8S48) := nb_n k8B47
def k8S49 : Shp := j4iS7 k8S48 49
def k8M49 : Mem := j4iM7 k8S48 49 k8M48
theorem k8B49 : NB (k8S49) := j4iB7 k8B48
def k8S50 : Shp := (k8S49.1, k8S49.2.1, p2 k8S49.2.2 30 3 (some 49))
def k8M50 : Mem := k8M49
theorem k8B50 : NB (k8S50) := nb_p k8B49 (by decide)
def k8S51 : Shp := nS k8S50 (3, 0)
def k8M51 : Mem := nM k8S50 k8M50
theorem k8B51 : NB (k8S51) := nb_n k8B50
def k8S52 : Shp := j4iS7 k8S51 52
def k8M52 : Mem := j4iM7 k8S51 52 k8M51
theorem k8B52 : NB (k8S52) := j4iB7 k8B51
def k8S53 : Shp := (k8S52.1, k8S52.2.1, p2 k8S52.2.2 30 4 (some 52))
def k8M53 : Mem := k8M52
theorem k8B53 : NB (k8S53) := nb_p k8B52 (by decide)
theorem c_X8_init {G : GX} {d : Nat} (hd : 4 ≤ d) : PM G yX8_init cX8_init 2 none d 54 2647 [.ref 0] k8S0 k8M0 (fun r S' J => r = none ∧ S' = k8S53 ∧ J = k8M53) := by
  refine PM.of (ls := [some (.ref 0), none]) (by decide) rfl (Nat.le_of_ble_eq_true rfl) rfl ?_
  show PW G RX8 "<init>" _ _ _ _ _ _ _ _ _ _ _ _
  refine PW.room (d := d) (kc := ((((((((((((((((((((((((((((((((0 + 2) + 1) + 2) + 1) + 2) + 1) + 2) + 1) + 2) + 1) + 1) + 1) + 1) + 1) + 1) + 1) + 1) + 1) + 1) + 1) + 1) + 1) + 1) + 1) + 3) + 1) + 6) + 1) + 6) + 1) + 6) + 1)) (ks := ((((((((((((((((((((((((((((((((0 + 27) + nFl 3) + 27) + nFl 3) + 27) + nFl 3) + 27) + nFl 3) + 27) + nFl 3) + 24) + nFl 2) + 24) + nFl 2) + 24) + nFl 2) + 24) + nFl 2) + 60) + 5) + 4) + 1890) + nFl 0) + 14) + 194) + nFl 1) + 53) + nFl 4) + 53) + nFl 4) + 53) + nFl 4)) ?_ (Nat.le_refl _) (by decide +kernel) (by decide +kernel)
  refine P_aload0 (pc' := 1) dX8_init_0 rfl ?_
  refine P_objInit (pc' := 4) dX8_init_1 rfl lk_X8_1 (by omega) (Nat.le_of_ble_eq_true rfl) ?_
  refine P_aload0 (pc' := 5) dX8_init_4 rfl ?_
  refine P_new (pc' := 8) dX8_init_5 rfl cl_X8_7 (by decide +kernel) ?_
  refine P_fd (S' := k8S1) (I' := k8M1) rfl rfl ?_
  refine P_ra (b := 1) (by decide +kernel) ?_
  refine P_dup (pc' := 9) dX8_init_8 rfl rfl ?_
  refine P_callIN0 (pc' := 12) dX8_init_9 rfl lk_X8_9 (c_X5_init (d := 1) (S := k8S1) (I := k8M1) (o := 1) ⟨(by decide +kernel), (by decide +kernel)⟩ (by decide +kernel) (by decide)) (by omega) (Nat.le_of_ble_eq_true rfl) (fun r S' I' hq => ?_)
  obtain ⟨rfl, rfl, rfl⟩ := hq
  refine P_fd (S' := k8S2) (I' := k8M2) rfl rfl ?_
  refine P_putrF (pc' := 15) (n := 0) dX8_init_12 rfl fl_X8_10 rfl (fun _ _ _ z => (congrArg Prod.fst (Option.some.inj z)).symm) (Or.inl ⟨_, rfl⟩) rfl (by decide +kernel) (by decide +kernel) ?_
  refine P_fd (S' := k8S3) (I' := k8M3) rfl rfl ?_
  refine P_aload0 (pc' := 16) dX8_init_15 rfl ?_
  refine P_new (pc' := 19) dX8_init_16 rfl cl_X8_7 (by decide +kernel) ?_
  refine P_fd (S' := k8S4) (I' := k8M4) rfl rfl ?_
  refine P_ra (b := 8) (by decide +kernel) ?_
  refine P_dup (pc' := 20) dX8_init_19 rfl rfl ?_
  refine P_callIN0 (pc' := 23) dX8_init_20 rfl lk_X8_9 (c_X5_init (d := 1) (S := k8S4) (I := k8M4) (o := 8) ⟨(by decide +kernel), (by decide +kernel)⟩ (by decide +kernel) (by decide)) (by omega) (Nat.le_of_ble_eq_true rfl) (fun r S' I' hq => ?_)
  obtain ⟨rfl, rfl, rfl⟩ := hq
  refine P_fd (S' := k8S5) (I' := k8M5) rfl rfl ?_
  refine P_putrF (pc' := 26) (n := 0) dX8_init_23 rfl fl_X8_16 rfl (fun _ _ _ z => (congrArg Prod.fst (Option.some.inj z)).symm) (Or.inl ⟨_, rfl⟩) rfl (by decide +kernel) (by decide +kernel) ?_
  refine P_fd (S' := k8S6) (I' := k8M6) rfl rfl ?_
  refine P_aload0 (pc' := 27) dX8_init_26 rfl ?_
  refine P_new (pc' := 30) dX8_init_27 rfl cl_X8_7 (by decide +kernel) ?_
  refine P_fd (S' := k8S7) (I' := k8M7) rfl rfl ?_
  refine P_ra (b := 15) (by decide +kernel) ?_
  refine P_dup (pc' := 31) dX8_init_30 rfl rfl ?_
  refine P_callIN0 (pc' := 34) dX8_init_31 rfl lk_X8_9 (c_X5_init (d := 1) (S := k8S7) (I := k8M7) (o := 15) ⟨(by decide +kernel), (by decide +kernel)⟩ (by decide +kernel) (by decide)) (by omega) (Nat.le_of_ble_eq_true rfl) (fun r S' I' hq => ?_)
  obtain ⟨rfl, rfl, rfl⟩ := hq
  refine P_fd (S' := k8S8) (I' := k8M8) rfl rfl ?_
  refine P_putrF (pc' := 37) (n := 0) dX8_init_34 rfl fl_X8_19 rfl (fun _ _ _ z => (congrArg Prod.fst (Option.some.inj z)).symm) (Or.inl ⟨_, rfl⟩) rfl (by decide +kernel) (by decide +kernel) ?_
  refine P_fd (S' := k8S9) (I' := k8M9) rfl rfl ?_
  refine P_aload0 (pc' := 38) dX8_init_37 rfl ?_
  refine P_iconst (pc' := 39) dX8_init_38 rfl (v := 0) rfl ?_
  refine P_putz (pc' := 42) (n := 0) dX8_init_39 rfl fl_X8_22 rfl (by decide +kernel) (by decide +kernel) (Or.inl rfl) ?_
  refine P_fd (S' := k8S10) (I' := k8M10) rfl rfl ?_
  refine P_aload0 (pc' := 43) dX8_init_42 rfl ?_
  refine P_new (pc' := 46) dX8_init_43 rfl cl_X8_26 (by decide +kernel) ?_
  refine P_fd (S' := k8S11) (I' := k8M11) rfl rfl ?_
  refine P_ra (b := 22) (by decide +kernel) ?_
  refine P_dup (pc' := 47) dX8_init_46 rfl rfl ?_
  refine P_callIN0 (pc' := 50) dX8_init_47 rfl lk_X8_28 (c_X2_init (d := 2) (S := k8S11) (I := k8M11) (o := 22) ⟨(by decide +kernel), (by decide +kernel)⟩ (by decide +kernel) (by decide)) (by omega) (Nat.le_of_ble_eq_true rfl) (fun r S' I' hq => ?_)
  obtain ⟨rfl, rfl, rfl⟩ := hq
  refine P_fd (S' := k8S12) (I' := k8M12) rfl rfl ?_
  refine P_putrF (pc' := 53) (n := 0) dX8_init_50 rfl fl_X8_29 rfl (fun _ _ _ z => (congrArg Prod.fst (Option.some.inj z)).symm) (Or.inl ⟨_, rfl⟩) rfl (by decide +kernel) (by decide +kernel) ?_
  refine P_fd (S' := k8S13) (I' := k8M13) rfl rfl ?_
  refine P_aload0 (pc' := 54) dX8_init_53 rfl ?_
  refine P_aload0 (pc' := 55) dX8_init_54 rfl ?_
  refine P_getr (pc' := 58) (n := 0) (b := 22) dX8_init_55 rfl fl_X8_29 rfl (by decide +kernel) (by decide +kernel) (by decide +kernel) ?_
  refine P_getr (pc' := 61) (n := 0) (b := 23) dX8_init_58 rfl fl_X8_33 rfl (by decide +kernel) (by decide +kernel) (by decide +kernel) ?_
  refine P_putrF (pc' := 64) (n := 0) dX8_init_61 rfl fl_X8_37 rfl (fun _ _ _ z => (congrArg Prod.fst (Option.some.inj z)).symm) (Or.inl ⟨_, rfl⟩) rfl (by decide +kernel) (by decide +kernel) ?_
  refine P_fd (S' := k8S14) (I' := k8M14) rfl rfl ?_
  refine P_aload0 (pc' := 65) dX8_init_64 rfl ?_
  refine P_bipush (pc' := 67) dX8_init_65 rfl (v := 14) rfl ?_
  refine P_newr15 (pc' := 70) (N := 14) dX8_init_67 rfl cn_X8_38 rfl (Nat.le_of_ble_eq_true rfl) (by decide +kernel) ?_
  refine P_fd (S' := k8S15) (I' := k8M15) rfl rfl ?_
  refine P_ra (b := 26) (by decide +kernel) ?_
  refine P_putrF (pc' := 73) (n := 0) dX8_init_70 rfl fl_X8_40 rfl (fun _ _ _ z => (congrArg Prod.fst (Option.some.inj z)).symm) (Or.inr ⟨_, rfl⟩) rfl (by decide +kernel) (by decide +kernel) ?_
  refine P_fd (S' := k8S16) (I' := k8M16) rfl rfl ?_
  refine P_aload0 (pc' := 74) dX8_init_73 rfl ?_
  refine P_new (pc' := 77) dX8_init_74 rfl cl_X8_44 (by decide +kernel) ?_
  refine P_fd (S' := k8S17) (I' := k8M17) rfl rfl ?_
  refine P_ra (b := 27) (by decide +kernel) ?_
  refine P_dup (pc' := 78) dX8_init_77 rfl rfl ?_
  refine P_callIN0 (pc' := 81) dX8_init_78 rfl lk_X8_46 (c_X0_init (d := 1) (S := k8S17) (I := k8M17) (o := 27) ⟨(by decide +kernel), (by decide +kernel)⟩ (by decide +kernel) (by decide)) (by omega) (Nat.le_of_ble_eq_true rfl) (fun r S' I' hq => ?_)
  obtain ⟨rfl, rfl, rfl⟩ := hq
  refine P_fd (S' := k8S18) (I' := k8M18) rfl rfl ?_
  refine P_putrF (pc' := 84) (n := 0) dX8_init_81 rfl fl_X8_47 rfl (fun _ _ _ z => (congrArg Prod.fst (Option.some.inj z)).symm) (Or.inl ⟨_, rfl⟩) rfl (by decide +kernel) (by decide +kernel) ?_
  refine P_fd (S' := k8S19) (I' := k8M19) rfl rfl ?_
  refine P_aload0 (pc' := 85) dX8_init_84 rfl ?_
  refine P_iconst (pc' := 86) dX8_init_85 rfl (v := 4) rfl ?_
  refine P_newr13 (pc' := 89) (N := 4) dX8_init_86 rfl cn_X8_51 rfl (Nat.le_of_ble_eq_true rfl) (by decide +kernel) ?_
  refine P_fd (S' := k8S20) (I' := k8M20) rfl rfl ?_
  refine P_ra (b := 29) (by decide +kernel) ?_
  refine P_putrF (pc' := 92) (n := 0) dX8_init_89 rfl fl_X8_53 rfl (fun _ _ _ z => (congrArg Prod.fst (Option.some.inj z)).symm) (Or.inr ⟨_, rfl⟩) rfl (by decide +kernel) (by decide +kernel) ?_
  refine P_fd (S' := k8S21) (I' := k8M21) rfl rfl ?_
  refine P_aload0 (pc' := 93) dX8_init_92 rfl ?_
  refine P_iconst (pc' := 94) dX8_init_93 rfl (v := 5) rfl ?_
  refine P_newr14 (pc' := 97) (N := 5) dX8_init_94 rfl cn_X8_57 rfl (Nat.le_of_ble_eq_true rfl) (by decide +kernel) ?_
  refine P_fd (S' := k8S22) (I' := k8M22) rfl rfl ?_
  refine P_ra (b := 30) (by decide +kernel) ?_
  refine P_putrF (pc' := 100) (n := 0) dX8_init_97 rfl fl_X8_59 rfl (fun _ _ _ z => (congrArg Prod.fst (Option.some.inj z)).symm) (Or.inr ⟨_, rfl⟩) rfl (by decide +kernel) (by decide +kernel) ?_
  refine P_fd (S' := k8S23) (I' := k8M23) rfl rfl ?_
  refine P_aload0 (pc' := 101) dX8_init_100 rfl ?_
  refine P_bipush (pc' := 103) dX8_init_101 rfl (v := 60) rfl ?_
  refine P_newi (pc' := 105) (N := 60) dX8_init_103 rfl ac_int rfl (Nat.le_of_ble_eq_true rfl) (by decide +kernel) ?_
  refine P_fd (S' := k8S24) (I' := k8M24) rfl rfl ?_
  refine P_ra (b := 31) (by decide +kernel) ?_
  refine P_putrF (pc' := 108) (n := 0) dX8_init_105 rfl fl_X8_63 rfl (fun _ _ _ z => (congrArg Prod.fst (Option.some.inj z)).symm) (Or.inr ⟨_, rfl⟩) rfl (by decide +kernel) (by decide +kernel) ?_
  refine P_fd (S' := k8S25) (I' := k8M25) rfl rfl ?_
  refine P_aload0 (pc' := 109) dX8_init_108 rfl ?_
  refine P_iconst (pc' := 110) dX8_init_109 rfl (v := 0) rfl ?_
  refine P_puti (pc' := 113) (n := 0) dX8_init_110 rfl fl_X8_67 rfl (by decide +kernel) (by decide +kernel) ?_
  refine P_fd (S' := k8S26) (I' := k8M26) rfl rfl ?_
  refine P_iconst (pc' := 114) dX8_init_113 rfl (v := 0) rfl ?_
  refine P_istore1 (pc' := 115) dX8_init_114 rfl (by decide) rfl ?_
  refine P_iload1 (pc' := 116) dX8_init_115 rfl ?_
  refine P_iconst (pc' := 117) dX8_init_116 rfl (v := 4) rfl ?_
  refine P_icmp_ge (tgt := 139) (pc' := 120) dX8_init_117 rfl rfl (fun h => absurd h (by decide)) (fun h => ?_)
  refine P_aload0 (pc' := 121) dX8_init_120 rfl ?_
  refine P_getr (pc' := 124) (n := 0) (b := 29) dX8_init_121 rfl fl_X8_53 rfl (by decide +kernel) (by decide +kernel) (by decide +kernel) ?_
  refine P_iload1 (pc' := 125) dX8_init_124 rfl ?_
  refine P_new (pc' := 128) dX8_init_125 rfl cl_X8_51 (by decide +kernel) ?_
  refine P_fd (S' := k8S27) (I' := k8M27) rfl rfl ?_
  refine P_ra (b := 32) (by decide +kernel) ?_
  refine P_dup (pc' := 129) dX8_init_128 rfl rfl ?_
  refine P_callIN0 (pc' := 132) dX8_init_129 rfl lk_X8_71 (c_X3_init (d := 1) (S := k8S27) (I := k8M27) (o := 32) ⟨(by decide +kernel), (by decide +kernel)⟩ (by decide +kernel) (by decide)) (by omega) (Nat.le_of_ble_eq_true rfl) (fun r S' I' hq => ?_)
  obtain ⟨rfl, rfl, rfl⟩ := hq
  refine P_fd (S' := k8S28) (I' := k8M28) rfl rfl ?_
  refine P_aast13 (pc' := 133) (n := 4) (n2 := 0) (j := 0) dX8_init_132 rfl (by decide +kernel) (by decide +kernel) rfl (by decide) (by decide) (by decide +kernel) (by decide +kernel) ?_
  refine P_fd (S' := k8S29) (I' := k8M29) rfl rfl ?_
  refine P_iinc1 (pc' := 136) (v := 1) dX8_init_133 rfl (by decide) (by decide) rfl ?_
  refine P_goto (tgt := 115) dX8_init_136 rfl ?_
  refine P_iload1 (pc' := 116) dX8_init_115 rfl ?_
  refine P_iconst (pc' := 117) dX8_init_116 rfl (v := 4) rfl ?_
  refine P_icmp_ge (tgt := 139) (pc' := 120) dX8_init_117 rfl rfl (fun h => absurd h (by decide)) (fun h => ?_)
  refine P_aload0 (pc' := 121) dX8_init_120 rfl ?_
  refine P_getr (pc' := 124) (n := 0) (b := 29) dX8_init_121 rfl fl_X8_53 rfl (by decide +kernel) (by decide +kernel) (by decide +kernel) ?_
  refine P_iload1 (pc' := 125) dX8_init_124 rfl ?_
  refine P_new (pc' := 128) dX8_init_125 rfl cl_X8_51 (by decide +kernel) ?_
  refine P_fd (S' := k8S30) (I' := k8M30) rfl rfl ?_
  refine P_ra (b := 34) (by decide +kernel) ?_
  refine P_dup (pc' := 129) dX8_init_128 rfl rfl ?_
  refine P_callIN0 (pc' := 132) dX8_init_129 rfl lk_X8_71 (c_X3_init (d := 1) (S := k8S30) (I := k8M30) (o := 34) ⟨(by decide +kernel), (by decide +kernel)⟩ (by decide +kernel) (by decide)) (by omega) (Nat.le_of_ble_eq_true rfl) (fun r S' I' hq => ?_)
  obtain ⟨rfl, rfl, rfl⟩ := hq
  refine P_fd (S' := k8S31) (I' := k8M31) rfl rfl ?_
  refine P_aast13 (pc' := 133) (n := 4) (n2 := 0) (j := 1) dX8_init_132 rfl (by decide +kernel) (by decide +kernel) rfl (by decide) (by decide) (by decide +kernel) (by decide +kernel) ?_
  refine P_fd (S' := k8S32) (I' := k8M32) rfl rfl ?_
  refine P_iinc1 (pc' := 136) (v := 2) dX8_init_133 rfl (by decide) (by decide) rfl ?_
  refine P_goto (tgt := 115) dX8_init_136 rfl ?_
  refine P_iload1 (pc' := 116) dX8_init_115 rfl ?_
  refine P_iconst (pc' := 117) dX8_init_116 rfl (v := 4) rfl ?_
  refine P_icmp_ge (tgt := 139) (pc' := 120) dX8_init_117 rfl rfl (fun h => absurd h (by decide)) (fun h => ?_)
  refine P_aload0 (pc' := 121) dX8_init_120 rfl ?_
  refine P_getr (pc' := 124) (n := 0) (b := 29) dX8_init_121 rfl fl_X8_53 rfl (by decide +kernel) (by decide +kernel) (by decide +kernel) ?_
  refine P_iload1 (pc' := 125) dX8_init_124 rfl ?_
  refine P_new (pc' := 128) dX8_init_125 rfl cl_X8_51 (by decide +kernel) ?_
  refine P_fd (S' := k8S33) (I' := k8M33) rfl rfl ?_
  refine P_ra (b := 36) (by decide +kernel) ?_
  refine P_dup (pc' := 129) dX8_init_128 rfl rfl ?_
  refine P_callIN0 (pc' := 132) dX8_init_129 rfl lk_X8_71 (c_X3_init (d := 1) (S := k8S33) (I := k8M33) (o := 36) ⟨(by decide +kernel), (by decide +kernel)⟩ (by decide +kernel) (by decide)) (by omega) (Nat.le_of_ble_eq_true rfl) (fun r S' I' hq => ?_)
  obtain ⟨rfl, rfl, rfl⟩ := hq
  refine P_fd (S' := k8S34) (I' := k8M34) rfl rfl ?_
  refine P_aast13 (pc' := 133) (n := 4) (n2 := 0) (j := 2) dX8_init_132 rfl (by decide +kernel) (by decide +kernel) rfl (by decide) (by decide) (by decide +kernel) (by decide +kernel) ?_
  refine P_fd (S' := k8S35) (I' := k8M35) rfl rfl ?_
  refine P_iinc1 (pc' := 136) (v := 3) dX8_init_133 rfl (by decide) (by decide) rfl ?_
  refine P_goto (tgt := 115) dX8_init_136 rfl ?_
  refine P_iload1 (pc' := 116) dX8_init_115 rfl ?_
  refine P_iconst (pc' := 117) dX8_init_116 rfl (v := 4) rfl ?_
  refine P_icmp_ge (tgt := 139) (pc' := 120) dX8_init_117 rfl rfl (fun h => absurd h (by decide)) (fun h => ?_)
  refine P_aload0 (pc' := 121) dX8_init_120 rfl ?_
  refine P_getr (pc' := 124) (n := 0) (b := 29) dX8_init_121 rfl fl_X8_53 rfl (by decide +kernel) (by decide +kernel) (by decide +kernel) ?_
  refine P_iload1 (pc' := 125) dX8_init_124 rfl ?_
  refine P_new (pc' := 128) dX8_init_125 rfl cl_X8_51 (by decide +kernel) ?_
  refine P_fd (S' := k8S36) (I' := k8M36) rfl rfl ?_
  refine P_ra (b := 38) (by decide +kernel) ?_
  refine P_dup (pc' := 129) dX8_init_128 rfl rfl ?_
  refine P_callIN0 (pc' := 132) dX8_init_129 rfl lk_X8_71 (c_X3_init (d := 1) (S := k8S36) (I := k8M36) (o := 38) ⟨(by decide +kernel), (by decide +kernel)⟩ (by decide +kernel) (by decide)) (by omega) (Nat.le_of_ble_eq_true rfl) (fun r S' I' hq => ?_)
  obtain ⟨rfl, rfl, rfl⟩ := hq
  refine P_fd (S' := k8S37) (I' := k8M37) rfl rfl ?_
  refine P_aast13 (pc' := 133) (n := 4) (n2 := 0) (j := 3) dX8_init_132 rfl (by decide +kernel) (by decide +kernel) rfl (by decide) (by decide) (by decide +kernel) (by decide +kernel) ?_
  refine P_fd (S' := k8S38) (I' := k8M38) rfl rfl ?_
  refine P_iinc1 (pc' := 136) (v := 4) dX8_init_133 rfl (by decide) (by decide) rfl ?_
  refine P_goto (tgt := 115) dX8_init_136 rfl ?_
  refine P_iload1 (pc' := 116) dX8_init_115 rfl ?_
  refine P_iconst (pc' := 117) dX8_init_116 rfl (v := 4) rfl ?_
  refine P_icmp_ge (tgt := 139) (pc' := 120) dX8_init_117 rfl rfl (fun h => ?_) (fun h => absurd h (by decide))
  refine P_iconst (pc' := 140) dX8_init_139 rfl (v := 0) rfl ?_
  refine P_istore1 (pc' := 141) dX8_init_140 rfl (by decide) rfl ?_
  refine P_iload1 (pc' := 142) dX8_init_141 rfl ?_
  refine P_iconst (pc' := 143) dX8_init_142 rfl (v := 5) rfl ?_
  refine P_icmp_ge (tgt := 165) (pc' := 146) dX8_init_143 rfl rfl (fun h => absurd h (by decide)) (fun h => ?_)
  refine P_aload0 (pc' := 147) dX8_init_146 rfl ?_
  refine P_getr (pc' := 150) (n := 0) (b := 30) dX8_init_147 rfl fl_X8_59 rfl (by decide +kernel) (by decide +kernel) (by decide +kernel) ?_
  refine P_iload1 (pc' := 151) dX8_init_150 rfl ?_
  refine P_new (pc' := 154) dX8_init_151 rfl cl_X8_57 (by decide +kernel) ?_
  refine P_fd (S' := k8S39) (I' := k8M39) rfl rfl ?_
  refine P_ra (b := 40) (by decide +kernel) ?_
  refine P_dup (pc' := 155) dX8_init_154 rfl rfl ?_
  refine P_callIN0 (pc' := 158) dX8_init_155 rfl lk_X8_72 (c_X4_init (d := 2) (S := k8S39) (I := k8M39) (o := 40) ⟨(by decide +kernel), (by decide +kernel)⟩ (by decide +kernel) (by decide)) (by omega) (Nat.le_of_ble_eq_true rfl) (fun r S' I' hq => ?_)
  obtain ⟨rfl, rfl, rfl⟩ := hq
  refine P_fd (S' := k8S40) (I' := k8M40) rfl rfl ?_
  refine P_aast14 (pc' := 159) (n := 5) (n2 := 0) (j := 0) dX8_init_158 rfl (by decide +kernel) (by decide +kernel) rfl (by decide) (by decide) (by decide +kernel) (by decide +kernel) ?_
  refine P_fd (S' := k8S41) (I' := k8M41) rfl rfl ?_
  refine P_iinc1 (pc' := 162) (v := 1) dX8_init_159 rfl (by decide) (by decide) rfl ?_
  refine P_goto (tgt := 141) dX8_init_162 rfl ?_
  refine P_iload1 (pc' := 142) dX8_init_141 rfl ?_
  refine P_iconst (pc' := 143) dX8_init_142 rfl (v := 5) rfl ?_
  refine P_icmp_ge (tgt := 165) (pc' := 146) dX8_init_143 rfl rfl (fun h => absurd h (by decide)) (fun h => ?_)
  refine P_aload0 (pc' := 147) dX8_init_146 rfl ?_
  refine P_getr (pc' := 150) (n := 0) (b := 30) dX8_init_147 rfl fl_X8_59 rfl (by decide +kernel) (by decide +kernel) (by decide +kernel) ?_
  refine P_iload1 (pc' := 151) dX8_init_150 rfl ?_
  refine P_new (pc' := 154) dX8_init_151 rfl cl_X8_57 (by decide +kernel) ?_
  refine P_fd (S' := k8S42) (I' := k8M42) rfl rfl ?_
  refine P_ra (b := 43) (by decide +kernel) ?_
  refine P_dup (pc' := 155) dX8_init_154 rfl rfl ?_
  refine P_callIN0 (pc' := 158) dX8_init_155 rfl lk_X8_72 (c_X4_init (d := 2) (S := k8S42) (I := k8M42) (o := 43) ⟨(by decide +kernel), (by decide +kernel)⟩ (by decide +kernel) (by decide)) (by omega) (Nat.le_of_ble_eq_true rfl) (fun r S' I' hq => ?_)
  obtain ⟨rfl, rfl, rfl⟩ := hq
  refine P_fd (S' := k8S43) (I' := k8M43) rfl rfl ?_
  refine P_aast14 (pc' := 159) (n := 5) (n2 := 0) (j := 1) dX8_init_158 rfl (by decide +kernel) (by decide +kernel) rfl (by decide) (by decide) (by decide +kernel) (by decide +kernel) ?_
  refine P_fd (S' := k8S44) (I' := k8M44) rfl rfl ?_
  refine P_iinc1 (pc' := 162) (v := 2) dX8_init_159 rfl (by decide) (by decide) rfl ?_
  refine P_goto (tgt := 141) dX8_init_162 rfl ?_
  refine P_iload1 (pc' := 142) dX8_init_141 rfl ?_
  refine P_iconst (pc' := 143) dX8_init_142 rfl (v := 5) rfl ?_
  refine P_icmp_ge (tgt := 165) (pc' := 146) dX8_init_143 rfl rfl (fun h => absurd h (by decide)) (fun h => ?_)
  refine P_aload0 (pc' := 147) dX8_init_146 rfl ?_
  refine P_getr (pc' := 150) (n := 0) (b := 30) dX8_init_147 rfl fl_X8_59 rfl (by decide +kernel) (by decide +kernel) (by decide +kernel) ?_
  refine P_iload1 (pc' := 151) dX8_init_150 rfl ?_
  refine P_new (pc' := 154) dX8_init_151 rfl cl_X8_57 (by decide +kernel) ?_
  refine P_fd (S' := k8S45) (I' := k8M45) rfl rfl ?_
  refine P_ra (b := 46) (by decide +kernel) ?_
  refine P_dup (pc' := 155) dX8_init_154 rfl rfl ?_
  refine P_callIN0 (pc' := 158) dX8_init_155 rfl lk_X8_72 (c_X4_init (d := 2) (S := k8S45) (I := k8M45) (o := 46) ⟨(by decide +kernel), (by decide +kernel)⟩ (by decide +kernel) (by decide)) (by omega) (Nat.le_of_ble_eq_true rfl) (fun r S' I' hq => ?_)
  obtain ⟨rfl, rfl, rfl⟩ := hq
  refine P_fd (S' := k8S46) (I' := k8M46) rfl rfl ?_
  refine P_aast14 (pc' := 159) (n := 5) (n2 := 0) (j := 2) dX8_init_158 rfl (by decide +kernel) (by decide +kernel) rfl (by decide) (by decide) (by decide +kernel) (by decide +kernel) ?_
  refine P_fd (S' := k8S47) (I' := k8M47) rfl rfl ?_
  refine P_iinc1 (pc' := 162) (v := 3) dX8_init_159 rfl (by decide) (by decide) rfl ?_
  refine P_goto (tgt := 141) dX8_init_162 rfl ?_
  refine P_iload1 (pc' := 142) dX8_init_141 rfl ?_
  refine P_iconst (pc' := 143) dX8_init_142 rfl (v := 5) rfl ?_
  refine P_icmp_ge (tgt := 165) (pc' := 146) dX8_init_143 rfl rfl (fun h => absurd h (by decide)) (fun h => ?_)
  refine P_aload0 (pc' := 147) dX8_init_146 rfl ?_
  refine P_getr (pc' := 150) (n := 0) (b := 30) dX8_init_147 rfl fl_X8_59 rfl (by decide +kernel) (by decide +kernel) (by decide +kernel) ?_
  refine P_iload1 (pc' := 151) dX8_init_150 rfl ?_
  refine P_new (pc' := 154) dX8_init_151 rfl cl_X8_57 (by decide +kernel) ?_
  refine P_fd (S' := k8S48) (I' := k8M48) rfl rfl ?_
  refine P_ra (b := 49) (by decide +kernel) ?_
  refine P_dup (pc' := 155) dX8_init_154 rfl rfl ?_
  refine P_callIN0 (pc' := 158) dX8_init_155 rfl lk_X8_72 (c_X4_init (d := 2) (S := k8S48) (I := k8M48) (o := 49) ⟨(by decide +kernel), (by decide +kernel)⟩ (by decide +kernel) (by decide)) (by omega) (Nat.le_of_ble_eq_true rfl) (fun r S' I' hq => ?_)
  obtain ⟨rfl, rfl, rfl⟩ := hq
  refine P_fd (S' := k8S49) (I' := k8M49) rfl rfl ?_
  refine P_aast14 (pc' := 159) (n := 5) (n2 := 0) (j := 3) dX8_init_158 rfl (by decide +kernel) (by decide +kernel) rfl (by decide) (by decide) (by decide +kernel) (by decide +kernel) ?_
  refine P_fd (S' := k8S50) (I' := k8M50) rfl rfl ?_
  refine P_iinc1 (pc' := 162) (v := 4) dX8_init_159 rfl (by decide) (by decide) rfl ?_
  refine P_goto (tgt := 141) dX8_init_162 rfl ?_
  refine P_iload1 (pc' := 142) dX8_init_141 rfl ?_
  refine P_iconst (pc' := 143) dX8_init_142 rfl (v := 5) rfl ?_
  refine P_icmp_ge (tgt := 165) (pc' := 146) dX8_init_143 rfl rfl (fun h => absurd h (by decide)) (fun h => ?_)
  refine P_aload0 (pc' := 147) dX8_init_146 rfl ?_
  refine P_getr (pc' := 150) (n := 0) (b := 30) dX8_init_147 rfl fl_X8_59 rfl (by decide +kernel) (by decide +kernel) (by decide +kernel) ?_
  refine P_iload1 (pc' := 151) dX8_init_150 rfl ?_
  refine P_new (pc' := 154) dX8_init_151 rfl cl_X8_57 (by decide +kernel) ?_
  refine P_fd (S' := k8S51) (I' := k8M51) rfl rfl ?_
  refine P_ra (b := 52) (by decide +kernel) ?_
  refine P_dup (pc' := 155) dX8_init_154 rfl rfl ?_
  refine P_callIN0 (pc' := 158) dX8_init_155 rfl lk_X8_72 (c_X4_init (d := 2) (S := k8S51) (I := k8M51) (o := 52) ⟨(by decide +kernel), (by decide +kernel)⟩ (by decide +kernel) (by decide)) (by omega) (Nat.le_of_ble_eq_true rfl) (fun r S' I' hq => ?_)
  obtain ⟨rfl, rfl, rfl⟩ := hq
  refine P_fd (S' := k8S52) (I' := k8M52) rfl rfl ?_
  refine P_aast14 (pc' := 159) (n := 5) (n2 := 0) (j := 4) dX8_init_158 rfl (by decide +kernel) (by decide +kernel) rfl (by decide) (by decide) (by decide +kernel) (by decide +kernel) ?_
  refine P_fd (S' := k8S53) (I' := k8M53) rfl rfl ?_
  refine P_iinc1 (pc' := 162) (v := 5) dX8_init_159 rfl (by decide) (by decide) rfl ?_
  refine P_goto (tgt := 141) dX8_init_162 rfl ?_
  refine P_iload1 (pc' := 142) dX8_init_141 rfl ?_
  refine P_iconst (pc' := 143) dX8_init_142 rfl (v := 5) rfl ?_
  refine P_icmp_ge (tgt := 165) (pc' := 146) dX8_init_143 rfl rfl (fun h => ?_) (fun h => absurd h (by decide))
  refine P_vret dX8_init_165 ?_
  exact ⟨rfl, rfl, rfl⟩
