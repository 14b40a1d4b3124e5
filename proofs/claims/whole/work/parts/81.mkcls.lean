/-! the class is made -/
def zS : Shp := (0, fun _ => (0, 0), fun _ _ => none)
def zM : Mem := fun _ _ => 0
theorem zB : NB zS := fun _ _ _ => rfl
def k8S0 : Shp := nS zS (7, 0)
def k8M0 : Mem := nM zS zM
theorem k8B0 : NB k8S0 := nb_n zB
def k8S1 : Shp := nS k8S0 (4, 0)
def k8M1 : Mem := nM k8S0 k8M0
theorem k8B1 : NB (k8S1) := nb_n k8B0
def k8S2 : Shp := j5iS20 k8S1 1
def k8M2 : Mem := j5iM20 k8S1 1 k8M1
theorem k8B2 : NB (k8S2) := j5iB20 k8B1
def k8S3 : Shp := (k8S2.1, k8S2.2.1, p2 k8S2.2.2 0 0 (some 1))
def k8M3 : Mem := k8M2
theorem k8B3 : NB (k8S3) := nb_p k8B2 (by decide)
def k8S4 : Shp := nS k8S3 (4, 0)
def k8M4 : Mem := nM k8S3 k8M3
theorem k8B4 : NB (k8S4) := nb_n k8B3
def k8S5 : Shp := j5iS20 k8S4 8
def k8M5 : Mem := j5iM20 k8S4 8 k8M4
theorem k8B5 : NB (k8S5) := j5iB20 k8B4
def k8S6 : Shp := (k8S5.1, k8S5.2.1, p2 k8S5.2.2 0 1 (some 8))
def k8M6 : Mem := k8M5
theorem k8B6 : NB (k8S6) := nb_p k8B5 (by decide)
def k8S7 : Shp := nS k8S6 (4, 0)
def k8M7 : Mem := nM k8S6 k8M6
theorem k8B7 : NB (k8S7) := nb_n k8B6
def k8S8 : Shp := j5iS20 k8S7 15
def k8M8 : Mem := j5iM20 k8S7 15 k8M7
theorem k8B8 : NB (k8S8) := j5iB20 k8B7
def k8S9 : Shp := (k8S8.1, k8S8.2.1, p2 k8S8.2.2 0 2 (some 15))
def k8M9 : Mem := k8M8
theorem k8B9 : NB (k8S9) := nb_p k8B8 (by decide)
def k8S10 : Shp := k8S9
def k8M10 : Mem := u2 k8M9 0 3 0
theorem k8B10 : NB (k8S10) := k8B9
def k8S11 : Shp := nS k8S10 (5, 0)
def k8M11 : Mem := nM k8S10 k8M10
theorem k8B11 : NB (k8S11) := nb_n k8B10
def k8S12 : Shp := j6iS3 k8S11 22
def k8M12 : Mem := j6iM3 k8S11 22 k8M11
theorem k8B12 : NB (k8S12) := j6iB3 k8B11
def k8S13 : Shp := (k8S12.1, k8S12.2.1, p2 k8S12.2.2 0 4 (some 22))
def k8M13 : Mem := k8M12
theorem k8B13 : NB (k8S13) := nb_p k8B12 (by decide)
def k8S14 : Shp := nS k8S13 (1, 0)
def k8M14 : Mem := nM k8S13 k8M13
theorem k8B14 : NB (k8S14) := nb_n k8B13
def k8S15 : Shp := j2iS10 k8S14 24 22
def k8M15 : Mem := j2iM10 k8S14 24 22 k8M14
theorem k8B15 : NB (k8S15) := j2iB10 k8B14
def k8S16 : Shp := (k8S15.1, k8S15.2.1, p2 k8S15.2.2 0 5 (some 24))
def k8M16 : Mem := k8M15
theorem k8B16 : NB (k8S16) := nb_p k8B15 (by decide)
def k8S17 : Shp := nS k8S16 (15, 14)
def k8M17 : Mem := nM k8S16 k8M16
theorem k8B17 : NB (k8S17) := nb_n k8B16
def k8S18 : Shp := (k8S17.1, k8S17.2.1, p2 k8S17.2.2 0 6 (some 26))
def k8M18 : Mem := k8M17
theorem k8B18 : NB (k8S18) := nb_p k8B17 (by decide)
def k8S19 : Shp := nS k8S18 (0, 0)
def k8M19 : Mem := nM k8S18 k8M18
theorem k8B19 : NB (k8S19) := nb_n k8B18
def k8S20 : Shp := j0iS3 k8S19 27
def k8M20 : Mem := j0iM3 k8S19 27 k8M19
theorem k8B20 : NB (k8S20) := j0iB3 k8B19
def k8S21 : Shp := (k8S20.1, k8S20.2.1, p2 k8S20.2.2 0 7 (some 27))
def k8M21 : Mem := k8M20
theorem k8B21 : NB (k8S21) := nb_p k8B20 (by decide)
def k8S22 : Shp := nS k8S21 (13, 4)
def k8M22 : Mem := nM k8S21 k8M21
theorem k8B22 : NB (k8S22) := nb_n k8B21
def k8S23 : Shp := (k8S22.1, k8S22.2.1, p2 k8S22.2.2 0 8 (some 29))
def k8M23 : Mem := k8M22
theorem k8B23 : NB (k8S23) := nb_p k8B22 (by decide)
def k8S24 : Shp := nS k8S23 (14, 5)
def k8M24 : Mem := nM k8S23 k8M23
theorem k8B24 : NB (k8S24) := nb_n k8B23
def k8S25 : Shp := (k8S24.1, k8S24.2.1, p2 k8S24.2.2 0 9 (some 30))
def k8M25 : Mem := k8M24
theorem k8B25 : NB (k8S25) := nb_p k8B24 (by decide)
def k8S26 : Shp := nS k8S25 (9, 60)
def k8M26 : Mem := nM k8S25 k8M25
theorem k8B26 : NB (k8S26) := nb_n k8B25
def k8S27 : Shp := (k8S26.1, k8S26.2.1, p2 k8S26.2.2 0 10 (some 31))
def k8M27 : Mem := k8M26
theorem k8B27 : NB (k8S27) := nb_p k8B26 (by decide)
def k8S28 : Shp := k8S27
def k8M28 : Mem := u2 k8M27 0 11 0
theorem k8B28 : NB (k8S28) := k8B27
def k8S29 : Shp := nS k8S28 (2, 0)
def k8M29 : Mem := nM k8S28 k8M28
theorem k8B29 : NB (k8S29) := nb_n k8B28
def k8S30 : Shp := j3iS4 k8S29 32
def k8M30 : Mem := j3iM4 k8S29 32 k8M29
theorem k8B30 : NB (k8S30) := j3iB4 k8B29
def k8S31 : Shp := (k8S30.1, k8S30.2.1, p2 k8S30.2.2 29 0 (some 32))
def k8M31 : Mem := k8M30
theorem k8B31 : NB (k8S31) := nb_p k8B30 (by decide)
def k8S32 : Shp := nS k8S31 (2, 0)
def k8M32 : Mem := nM k8S31 k8M31
theorem k8B32 : NB (k8S32) := nb_n k8B31
def k8S33 : Shp := j3iS4 k8S32 34
def k8M33 : Mem := j3iM4 k8S32 34 k8M32
theorem k8B33 : NB (k8S33) := j3iB4 k8B32
def k8S34 : Shp := (k8S33.1, k8S33.2.1, p2 k8S33.2.2 29 1 (some 34))
def k8M34 : Mem := k8M33
theorem k8B34 : NB (k8S34) := nb_p k8B33 (by decide)
def k8S35 : Shp := nS k8S34 (2, 0)
def k8M35 : Mem := nM k8S34 k8M34
theorem k8B35 : NB (k8S35) := nb_n k8B34
def k8S36 : Shp := j3iS4 k8S35 36
def k8M36 : Mem := j3iM4 k8S35 36 k8M35
theorem k8B36 : NB (k8S36) := j3iB4 k8B35
def k8S37 : Shp := (k8S36.1, k8S36.2.1, p2 k8S36.2.2 29 2 (some 36))
def k8M37 : Mem := k8M36
theorem k8B37 : NB (k8S37) := nb_p k8B36 (by decide)
def k8S38 : Shp := nS k8S37 (2, 0)
def k8M38 : Mem := nM k8S37 k8M37
theorem k8B38 : NB (k8S38) := nb_n k8B37
def k8S39 : Shp := j3iS4 k8S38 38
def k8M39 : Mem := j3iM4 k8S38 38 k8M38
theorem k8B39 : NB (k8S39) := j3iB4 k8B38
def k8S40 : Shp := (k8S39.1, k8S39.2.1, p2 k8S39.2.2 29 3 (some 38))
def k8M40 : Mem := k8M39
theorem k8B40 : NB (k8S40) := nb_p k8B39 (by decide)
def k8S41 : Shp := nS k8S40 (3, 0)
def k8M41 : Mem := nM k8S40 k8M40
theorem k8B41 : NB (k8S41) := nb_n k8B40
def k8S42 : Shp := j4iS7 k8S41 40
def k8M42 : Mem := j4iM7 k8S41 40 k8M41
theorem k8B42 : NB (k8S42) := j4iB7 k8B41
def k8S43 : Shp := (k8S42.1, k8S42.2.1, p2 k8S42.2.2 30 0 (some 40))
def k8M43 : Mem := k8M42
theorem k8B43 : NB (k8S43) := nb_p k8B42 (by decide)
def k8S44 : Shp := nS k8S43 (3, 0)
def k8M44 : Mem := nM k8S43 k8M43
theorem k8B44 : NB (k8S44) := nb_n k8B43
def k8S45 : Shp := j4iS7 k8S44 43
def k8M45 : Mem := j4iM7 k8S44 43 k8M44
theorem k8B45 : NB (k8S45) := j4iB7 k8B44
def k8S46 : Shp := (k8S45.1, k8S45.2.1, p2 k8S45.2.2 30 1 (some 43))
def k8M46 : Mem := k8M45
theorem k8B46 : NB (k8S46) := nb_p k8B45 (by decide)
def k8S47 : Shp := nS k8S46 (3, 0)
def k8M47 : Mem := nM k8S46 k8M46
theorem k8B47 : NB (k8S47) := nb_n k8B46
def k8S48 : Shp := j4iS7 k8S47 46
def k8M48 : Mem := j4iM7 k8S47 46 k8M47
theorem k8B48 : NB (k8S48) := j4iB7 k8B47
def k8S49 : Shp := (k8S48.1, k8S48.2.1, p2 k8S48.2.2 30 2 (some 46))
def k8M49 : Mem := k8M48
theorem k8B49 : NB (k8S49) := nb_p k8B48 (by decide)
def k8S50 : Shp := nS k8S49 (3, 0)
def k8M50 : Mem := nM k8S49 k8M49
theorem k8B50 : NB (k8S50) := nb_n k8B49
def k8S51 : Shp := j4iS7 k8S50 49
def k8M51 : Mem := j4iM7 k8S50 49 k8M50
theorem k8B51 : NB (k8S51) := j4iB7 k8B50
def k8S52 : Shp := (k8S51.1, k8S51.2.1, p2 k8S51.2.2 30 3 (some 49))
def k8M52 : Mem := k8M51
theorem k8B52 : NB (k8S52) := nb_p k8B51 (by decide)
def k8S53 : Shp := nS k8S52 (3, 0)
def k8M53 : Mem := nM k8S52 k8M52
theorem k8B53 : NB (k8S53) := nb_n k8B52
def k8S54 : Shp := j4iS7 k8S53 52
def k8M54 : Mem := j4iM7 k8S53 52 k8M53
theorem k8B54 : NB (k8S54) := j4iB7 k8B53
def k8S55 : Shp := (k8S54.1, k8S54.2.1, p2 k8S54.2.2 30 4 (some 52))
def k8M55 : Mem := k8M54
theorem k8B55 : NB (k8S55) := nb_p k8B54 (by decide)
theorem c_X8_init {G : GX} {d : Nat} (hd : 4 ≤ d) : PM G yX8_init cX8_init 2 none d 54 2647 [.ref 0] k8S0 k8M0 (fun r S' J => r = none ∧ S' = k8S55 ∧ J = k8M55) := by
  refine PM.of (ls := [some (.ref 0), none]) (by decide) rfl (Nat.le_of_ble_eq_true rfl) rfl ?_
  show PW G RX8 "<init>" _ _ _ _ _ _ _ _ _ _ _ _
  refine PW.room (d := d) (kc := ((((((((((((((((((((((((((((((((((0 + 2) + 1) + 2) + 1) + 2) + 1) + 2) + 1) + 2) + 1) + 1) + 1) + 1) + 1) + 1) + 1) + 1) + 1) + 1) + 1) + 1) + 1) + 1) + 1) + 1) + 1) + 1) + 1) + 6) + 1) + 6) + 1) + 6) + 1)) (ks := ((((((((((((((((((((((((((((((((((0 + 27) + nFl 3) + 27) + nFl 3) + 27) + nFl 3) + 27) + nFl 3) + 27) + nFl 3) + 24) + nFl 2) + 24) + nFl 2) + 24) + nFl 2) + 24) + nFl 2) + 60) + 5) + 4) + 1890) + nFl 0) + 14) + 96) + nFl 1) + 96) + nFl 5) + 53) + nFl 4) + 53) + nFl 4) + 53) + nFl 4)) ?_ (Nat.le_refl _) (by decide +kernel) (by decide +kernel)
  refine P_aload0 (pc' := 1) dX8_init_0 rfl ?_
  refine P_objInit (pc' := 4) dX8_init_1 rfl lk_X8_1 (by omega) (Nat.le_of_ble_eq_true rfl) ?_
  refine P_aload0 (pc' := 5) dX8_init_4 rfl ?_
  refine P_new (pc' := 8) dX8_init_5 rfl cl_X8_7 (by decide +kernel) ?_
  refine P_fd (S' := k8S1) (I' := k8M1) rfl rfl ?_
  refine P_ra (b := 1) (by decide +kernel) ?_
  refine P_dup (pc' := 9) dX8_init_8 rfl rfl ?_
  refine P_callIN0 (pc' := 12) dX8_init_9 rfl lk_X8_9 (c_X5_init (d := 1) (S := k8S1) (I := k8M1) (o := 1) ⟨(by decide +kernel), (by decide +kernel)⟩ (by decide +kernel) (by decide)) (by omega) (Nat.le_of_ble_eq_true rfl) (fun r S' I' hq => ?_)
  obtain ⟨rfl, rfl, rfl⟩ := hq
  refine P_fd (S' := k8S2) (I' := k8M2) rfl rfl ?_
  refine P_putrF (pc' := 15) (n := 0) dX8_init_12 rfl fl_X8_10 rfl (fun _ _ _ z => (congrArg Prod.fst (Option.some.inj z)).symm) (Or.inl ⟨_, rfl⟩) rfl (by decide +kernel) (by decide +kernel) ?_
  refine P_fd (S' := k8S3) (I' := k8M3) rfl rfl ?_
  refine P_aload0 (pc' := 16) dX8_init_15 rfl ?_
  refine P_new (pc' := 19) dX8_init_16 rfl cl_X8_7 (by decide +kernel) ?_
  refine P_fd (S' := k8S4) (I' := k8M4) rfl rfl ?_
  refine P_ra (b := 8) (by decide +kernel) ?_
  refine P_dup (pc' := 20) dX8_init_19 rfl rfl ?_
  refine P_callIN0 (pc' := 23) dX8_init_20 rfl lk_X8_9 (c_X5_init (d := 1) (S := k8S4) (I := k8M4) (o := 8) ⟨(by decide +kernel), (by decide +kernel)⟩ (by decide +kernel) (by decide)) (by omega) (Nat.le_of_ble_eq_true rfl) (fun r S' I' hq => ?_)
  obtain ⟨rfl, rfl, rfl⟩ := hq
  refine P_fd (S' := k8S5) (I' := k8M5) rfl rfl ?_
  refine P_putrF (pc' := 26) (n := 0) dX8_init_23 rfl fl_X8_16 rfl (fun _ _ _ z => (congrArg Prod.fst (Option.some.inj z)).symm) (Or.inl ⟨_, rfl⟩) rfl (by decide +kernel) (by decide +kernel) ?_
  refine P_fd (S' := k8S6) (I' := k8M6) rfl rfl ?_
  refine P_aload0 (pc' := 27) dX8_init_26 rfl ?_
  refine P_new (pc' := 30) dX8_init_27 rfl cl_X8_7 (by decide +kernel) ?_
  refine P_fd (S' := k8S7) (I' := k8M7) rfl rfl ?_
  refine P_ra (b := 15) (by decide +kernel) ?_
  refine P_dup (pc' := 31) dX8_init_30 rfl rfl ?_
  refine P_callIN0 (pc' := 34) dX8_init_31 rfl lk_X8_9 (c_X5_init (d := 1) (S := k8S7) (I := k8M7) (o := 15) ⟨(by decide +kernel), (by decide +kernel)⟩ (by decide +kernel) (by decide)) (by omega) (Nat.le_of_ble_eq_true rfl) (fun r S' I' hq => ?_)
  obtain ⟨rfl, rfl, rfl⟩ := hq
  refine P_fd (S' := k8S8) (I' := k8M8) rfl rfl ?_
  refine P_putrF (pc' := 37) (n := 0) dX8_init_34 rfl fl_X8_19 rfl (fun _ _ _ z => (congrArg Prod.fst (Option.some.inj z)).symm) (Or.inl ⟨_, rfl⟩) rfl (by decide +kernel) (by decide +kernel) ?_
  refine P_fd (S' := k8S9) (I' := k8M9) rfl rfl ?_
  refine P_aload0 (pc' := 38) dX8_init_37 rfl ?_
  refine P_iconst (pc' := 39) dX8_init_38 rfl (v := 0) rfl ?_
  refine P_putz (pc' := 42) (n := 0) dX8_init_39 rfl fl_X8_22 rfl (by decide +kernel) (by decide +kernel) (Or.inl rfl) ?_
  refine P_fd (S' := k8S10) (I' := k8M10) rfl rfl ?_
  refine P_aload0 (pc' := 43) dX8_init_42 rfl ?_
  refine P_new (pc' := 46) dX8_init_43 rfl cl_X8_26 (by decide +kernel) ?_
  refine P_fd (S' := k8S11) (I' := k8M11) rfl rfl ?_
  refine P_ra (b := 22) (by decide +kernel) ?_
  refine P_dup (pc' := 47) dX8_init_46 rfl rfl ?_
  refine P_callIN0 (pc' := 50) dX8_init_47 rfl lk_X8_28 (c_X6_init (d := 1) (S := k8S11) (I := k8M11) (o := 22) ⟨(by decide +kernel), (by decide +kernel)⟩ (by decide +kernel) (by decide)) (by omega) (Nat.le_of_ble_eq_true rfl) (fun r S' I' hq => ?_)
  obtain ⟨rfl, rfl, rfl⟩ := hq
  refine P_fd (S' := k8S12) (I' := k8M12) rfl rfl ?_
  refine P_putrF (pc' := 53) (n := 0) dX8_init_50 rfl fl_X8_29 rfl (fun _ _ _ z => (congrArg Prod.fst (Option.some.inj z)).symm) (Or.inl ⟨_, rfl⟩) rfl (by decide +kernel) (by decide +kernel) ?_
  refine P_fd (S' := k8S13) (I' := k8M13) rfl rfl ?_
  refine P_aload0 (pc' := 54) dX8_init_53 rfl ?_
  refine P_new (pc' := 57) dX8_init_54 rfl cl_X8_33 (by decide +kernel) ?_
  refine P_fd (S' := k8S14) (I' := k8M14) rfl rfl ?_
  refine P_ra (b := 24) (by decide +kernel) ?_
  refine P_dup (pc' := 58) dX8_init_57 rfl rfl ?_
  refine P_aload0 (pc' := 59) dX8_init_58 rfl ?_
  refine P_getr (pc' := 62) (n := 0) (b := 22) dX8_init_59 rfl fl_X8_29 rfl (by decide +kernel) (by decide +kernel) (by decide +kernel) ?_
  refine P_callI1 (pc' := 65) dX8_init_62 rfl lk_X8_35 (c_X2_init (d := 1) (S := k8S14) (I := k8M14) (o := 24) (t := 22) ⟨(by decide +kernel), (by decide +kernel)⟩ (by decide +kernel) (by decide)) (by omega) (Nat.le_of_ble_eq_true rfl) (fun r S' I' hq => ?_)
  obtain ⟨rfl, rfl, rfl⟩ := hq
  refine P_fd (S' := k8S15) (I' := k8M15) rfl rfl ?_
  refine P_putrF (pc' := 68) (n := 0) dX8_init_65 rfl fl_X8_38 rfl (fun _ _ _ z => (congrArg Prod.fst (Option.some.inj z)).symm) (Or.inl ⟨_, rfl⟩) rfl (by decide +kernel) (by decide +kernel) ?_
  refine P_fd (S' := k8S16) (I' := k8M16) rfl rfl ?_
  refine P_aload0 (pc' := 69) dX8_init_68 rfl ?_
  refine P_bipush (pc' := 71) dX8_init_69 rfl (v := 14) rfl ?_
  refine P_newr15 (pc' := 74) (N := 14) dX8_init_71 rfl cn_X8_42 rfl (Nat.le_of_ble_eq_true rfl) (by decide +kernel) ?_
  refine P_fd (S' := k8S17) (I' := k8M17) rfl rfl ?_
  refine P_ra (b := 26) (by decide +kernel) ?_
  refine P_putrF (pc' := 77) (n := 0) dX8_init_74 rfl fl_X8_44 rfl (fun _ _ _ z => (congrArg Prod.fst (Option.some.inj z)).symm) (Or.inr ⟨_, rfl⟩) rfl (by decide +kernel) (by decide +kernel) ?_
  refine P_fd (S' := k8S18) (I' := k8M18) rfl rfl ?_
  refine P_aload0 (pc' := 78) dX8_init_77 rfl ?_
  refine P_new (pc' := 81) dX8_init_78 rfl cl_X8_48 (by decide +kernel) ?_
  refine P_fd (S' := k8S19) (I' := k8M19) rfl rfl ?_
  refine P_ra (b := 27) (by decide +kernel) ?_
  refine P_dup (pc' := 82) dX8_init_81 rfl rfl ?_
  refine P_callIN0 (pc' := 85) dX8_init_82 rfl lk_X8_50 (c_X0_init (d := 1) (S := k8S19) (I := k8M19) (o := 27) ⟨(by decide +kernel), (by decide +kernel)⟩ (by decide +kernel) (by decide)) (by omega) (Nat.le_of_ble_eq_true rfl) (fun r S' I' hq => ?_)
  obtain ⟨rfl, rfl, rfl⟩ := hq
  refine P_fd (S' := k8S20) (I' := k8M20) rfl rfl ?_
  refine P_putrF (pc' := 88) (n := 0) dX8_init_85 rfl fl_X8_51 rfl (fun _ _ _ z => (congrArg Prod.fst (Option.some.inj z)).symm) (Or.inl ⟨_, rfl⟩) rfl (by decide +kernel) (by decide +kernel) ?_
  refine P_fd (S' := k8S21) (I' := k8M21) rfl rfl ?_
  refine P_aload0 (pc' := 89) dX8_init_88 rfl ?_
  refine P_iconst (pc' := 90) dX8_init_89 rfl (v := 4) rfl ?_
  refine P_newr13 (pc' := 93) (N := 4) dX8_init_90 rfl cn_X8_55 rfl (Nat.le_of_ble_eq_true rfl) (by decide +kernel) ?_
  refine P_fd (S' := k8S22) (I' := k8M22) rfl rfl ?_
  refine P_ra (b := 29) (by decide +kernel) ?_
  refine P_putrF (pc' := 96) (n := 0) dX8_init_93 rfl fl_X8_57 rfl (fun _ _ _ z => (congrArg Prod.fst (Option.some.inj z)).symm) (Or.inr ⟨_, rfl⟩) rfl (by decide +kernel) (by decide +kernel) ?_
  refine P_fd (S' := k8S23) (I' := k8M23) rfl rfl ?_
  refine P_aload0 (pc' := 97) dX8_init_96 rfl ?_
  refine P_iconst (pc' := 98) dX8_init_97 rfl (v := 5) rfl ?_
  refine P_newr14 (pc' := 101) (N := 5) dX8_init_98 rfl cn_X8_61 rfl (Nat.le_of_ble_eq_true rfl) (by decide +kernel) ?_
  refine P_fd (S' := k8S24) (I' := k8M24) rfl rfl ?_
  refine P_ra (b := 30) (by decide +kernel) ?_
  refine P_putrF (pc' := 104) (n := 0) dX8_init_101 rfl fl_X8_63 rfl (fun _ _ _ z => (congrArg Prod.fst (Option.some.inj z)).symm) (Or.inr ⟨_, rfl⟩) rfl (by decide +kernel) (by decide +kernel) ?_
  refine P_fd (S' := k8S25) (I' := k8M25) rfl rfl ?_
  refine P_aload0 (pc' := 105) dX8_init_104 rfl ?_
  refine P_bipush (pc' := 107) dX8_init_105 rfl (v := 60) rfl ?_
  refine P_newi (pc' := 109) (N := 60) dX8_init_107 rfl ac_int rfl (Nat.le_of_ble_eq_true rfl) (by decide +kernel) ?_
  refine P_fd (S' := k8S26) (I' := k8M26) rfl rfl ?_
  refine P_ra (b := 31) (by decide +kernel) ?_
  refine P_putrF (pc' := 112) (n := 0) dX8_init_109 rfl fl_X8_67 rfl (fun _ _ _ z => (congrArg Prod.fst (Option.some.inj z)).symm) (Or.inr ⟨_, rfl⟩) rfl (by decide +kernel) (by decide +kernel) ?_
  refine P_fd (S' := k8S27) (I' := k8M27) rfl rfl ?_
  refine P_aload0 (pc' := 113) dX8_init_112 rfl ?_
  refine P_iconst (pc' := 114) dX8_init_113 rfl (v := 0) rfl ?_
  refine P_puti (pc' := 117) (n := 0) dX8_init_114 rfl fl_X8_71 rfl (by decide +kernel) (by decide +kernel) ?_
  refine P_fd (S' := k8S28) (I' := k8M28) rfl rfl ?_
  refine P_iconst (pc' := 118) dX8_init_117 rfl (v := 0) rfl ?_
  refine P_istore1 (pc' := 119) dX8_init_118 rfl (by decide) rfl ?_
  refine P_iload1 (pc' := 120) dX8_init_119 rfl ?_
  refine P_iconst (pc' := 121) dX8_init_120 rfl (v := 4) rfl ?_
  refine P_icmp_ge (tgt := 143) (pc' := 124) dX8_init_121 rfl rfl (fun h => absurd h (by decide)) (fun h => ?_)
  refine P_aload0 (pc' := 125) dX8_init_124 rfl ?_
  refine P_getr (pc' := 128) (n := 0) (b := 29) dX8_init_125 rfl fl_X8_57 rfl (by decide +kernel) (by decide +kernel) (by decide +kernel) ?_
  refine P_iload1 (pc' := 129) dX8_init_128 rfl ?_
  refine P_new (pc' := 132) dX8_init_129 rfl cl_X8_55 (by decide +kernel) ?_
  refine P_fd (S' := k8S29) (I' := k8M29) rfl rfl ?_
  refine P_ra (b := 32) (by decide +kernel) ?_
  refine P_dup (pc' := 133) dX8_init_132 rfl rfl ?_
  refine P_callIN0 (pc' := 136) dX8_init_133 rfl lk_X8_75 (c_X3_init (d := 1) (S := k8S29) (I := k8M29) (o := 32) ⟨(by decide +kernel), (by decide +kernel)⟩ (by decide +kernel) (by decide)) (by omega) (Nat.le_of_ble_eq_true rfl) (fun r S' I' hq => ?_)
  obtain ⟨rfl, rfl, rfl⟩ := hq
  refine P_fd (S' := k8S30) (I' := k8M30) rfl rfl ?_
  refine P_aast13 (pc' := 137) (n := 4) (n2 := 0) (j := 0) dX8_init_136 rfl (by decide +kernel) (by decide +kernel) rfl (by decide) (by decide) (by decide +kernel) (by decide +kernel) ?_
  refine P_fd (S' := k8S31) (I' := k8M31) rfl rfl ?_
  refine P_iinc1 (pc' := 140) (v := 1) dX8_init_137 rfl (by decide) (by decide) rfl ?_
  refine P_goto (tgt := 119) dX8_init_140 rfl ?_
  refine P_iload1 (pc' := 120) dX8_init_119 rfl ?_
  refine P_iconst (pc' := 121) dX8_init_120 rfl (v := 4) rfl ?_
  refine P_icmp_ge (tgt := 143) (pc' := 124) dX8_init_121 rfl rfl (fun h => absurd h (by decide)) (fun h => ?_)
  refine P_aload0 (pc' := 125) dX8_init_124 rfl ?_
  refine P_getr (pc' := 128) (n := 0) (b := 29) dX8_init_125 rfl fl_X8_57 rfl (by decide +kernel) (by decide +kernel) (by decide +kernel) ?_
  refine P_iload1 (pc' := 129) dX8_init_128 rfl ?_
  refine P_new (pc' := 132) dX8_init_129 rfl cl_X8_55 (by decide +kernel) ?_
  refine P_fd (S' := k8S32) (I' := k8M32) rfl rfl ?_
  refine P_ra (b := 34) (by decide +kernel) ?_
  refine P_dup (pc' := 133) dX8_init_132 rfl rfl ?_
  refine P_callIN0 (pc' := 136) dX8_init_133 rfl lk_X8_75 (c_X3_init (d := 1) (S := k8S32) (I := k8M32) (o := 34) ⟨(by decide +kernel), (by decide +kernel)⟩ (by decide +kernel) (by decide)) (by omega) (Nat.le_of_ble_eq_true rfl) (fun r S' I' hq => ?_)
  obtain ⟨rfl, rfl, rfl⟩ := hq
  refine P_fd (S' := k8S33) (I' := k8M33) rfl rfl ?_
  refine P_aast13 (pc' := 137) (n := 4) (n2 := 0) (j := 1) dX8_init_136 rfl (by decide +kernel) (by decide +kernel) rfl (by decide) (by decide) (by decide +kernel) (by decide +kernel) ?_
  refine P_fd (S' := k8S34) (I' := k8M34) rfl rfl ?_
  refine P_iinc1 (pc' := 140) (v := 2) dX8_init_137 rfl (by decide) (by decide) rfl ?_
  refine P_goto (tgt := 119) dX8_init_140 rfl ?_
  refine P_iload1 (pc' := 120) dX8_init_119 rfl ?_
  refine P_iconst (pc' := 121) dX8_init_120 rfl (v := 4) rfl ?_
  refine P_icmp_ge (tgt := 143) (pc' := 124) dX8_init_121 rfl rfl (fun h => absurd h (by decide)) (fun h => ?_)
  refine P_aload0 (pc' := 125) dX8_init_124 rfl ?_
  refine P_getr (pc' := 128) (n := 0) (b := 29) dX8_init_125 rfl fl_X8_57 rfl (by decide +kernel) (by decide +kernel) (by decide +kernel) ?_
  refine P_iload1 (pc' := 129) dX8_init_128 rfl ?_
  refine P_new (pc' := 132) dX8_init_129 rfl cl_X8_55 (by decide +kernel) ?_
  refine P_fd (S' := k8S35) (I' := k8M35) rfl rfl ?_
  refine P_ra (b := 36) (by decide +kernel) ?_
  refine P_dup (pc' := 133) dX8_init_132 rfl rfl ?_
  refine P_callIN0 (pc' := 136) dX8_init_133 rfl lk_X8_75 (c_X3_init (d := 1) (S := k8S35) (I := k8M35) (o := 36) ⟨(by decide +kernel), (by decide +kernel)⟩ (by decide +kernel) (by decide)) (by omega) (Nat.le_of_ble_eq_true rfl) (fun r S' I' hq => ?_)
  obtain ⟨rfl, rfl, rfl⟩ := hq
  refine P_fd (S' := k8S36) (I' := k8M36) rfl rfl ?_
  refine P_aast13 (pc' := 137) (n := 4) (n2 := 0) (j := 2) dX8_init_136 rfl (by decide +kernel) (by decide +kernel) rfl (by decide) (by decide) (by decide +kernel) (by decide +kernel) ?_
  refine P_fd (S' := k8S37) (I' := k8M37) rfl rfl ?_
  refine P_iinc1 (pc' := 140) (v := 3) dX8_init_137 rfl (by decide) (by decide) rfl ?_
  refine P_goto (tgt := 119) dX8_init_140 rfl ?_
  refine P_iload1 (pc' := 120) dX8_init_119 rfl ?_
  refine P_iconst (pc' := 121) dX8_init_120 rfl (v := 4) rfl ?_
  refine P_icmp_ge (tgt := 143) (pc' := 124) dX8_init_121 rfl rfl (fun h => absurd h (by decide)) (fun h => ?_)
  refine P_aload0 (pc' := 125) dX8_init_124 rfl ?_
  refine P_getr (pc' := 128) (n := 0) (b := 29) dX8_init_125 rfl fl_X8_57 rfl (by decide +kernel) (by decide +kernel) (by decide +kernel) ?_
  refine P_iload1 (pc' := 129) dX8_init_128 rfl ?_
  refine P_new (pc' := 132) dX8_init_129 rfl cl_X8_55 (by decide +kernel) ?_
  refine P_fd (S' := k8S38) (I' := k8M38) rfl rfl ?_
  refine P_ra (b := 38) (by decide +kernel) ?_
  refine P_dup (pc' := 133) dX8_init_132 rfl rfl ?_
  refine P_callIN0 (pc' := 136) dX8_init_133 rfl lk_X8_75 (c_X3_init (d := 1) (S := k8S38) (I := k8M38) (o := 38) ⟨(by decide +kernel), (by decide +kernel)⟩ (by decide +kernel) (by decide)) (by omega) (Nat.le_of_ble_eq_true rfl) (fun r S' I' hq => ?_)
  obtain ⟨rfl, rfl, rfl⟩ := hq
  refine P_fd (S' := k8S39) (I' := k8M39) rfl rfl ?_
  refine P_aast13 (pc' := 137) (n := 4) (n2 := 0) (j := 3) dX8_init_136 rfl (by decide +kernel) (by decide +kernel) rfl (by decide) (by decide) (by decide +kernel) (by decide +kernel) ?_
  refine P_fd (S' := k8S40) (I' := k8M40) rfl rfl ?_
  refine P_iinc1 (pc' := 140) (v := 4) dX8_init_137 rfl (by decide) (by decide) rfl ?_
  refine P_goto (tgt := 119) dX8_init_140 rfl ?_
  refine P_iload1 (pc' := 120) dX8_init_119 rfl ?_
  refine P_iconst (pc' := 121) dX8_init_120 rfl (v := 4) rfl ?_
  refine P_icmp_ge (tgt := 143) (pc' := 124) dX8_init_121 rfl rfl (fun h => ?_) (fun h => absurd h (by decide))
  refine P_iconst (pc' := 144) dX8_init_143 rfl (v := 0) rfl ?_
  refine P_istore1 (pc' := 145) dX8_init_144 rfl (by decide) rfl ?_
  refine P_iload1 (pc' := 146) dX8_init_145 rfl ?_
  refine P_iconst (pc' := 147) dX8_init_146 rfl (v := 5) rfl ?_
  refine P_icmp_ge (tgt := 169) (pc' := 150) dX8_init_147 rfl rfl (fun h => absurd h (by decide)) (fun h => ?_)
  refine P_aload0 (pc' := 151) dX8_init_150 rfl ?_
  refine P_getr (pc' := 154) (n := 0) (b := 30) dX8_init_151 rfl fl_X8_63 rfl (by decide +kernel) (by decide +kernel) (by decide +kernel) ?_
  refine P_iload1 (pc' := 155) dX8_init_154 rfl ?_
  refine P_new (pc' := 158) dX8_init_155 rfl cl_X8_61 (by decide +kernel) ?_
  refine P_fd (S' := k8S41) (I' := k8M41) rfl rfl ?_
  refine P_ra (b := 40) (by decide +kernel) ?_
  refine P_dup (pc' := 159) dX8_init_158 rfl rfl ?_
  refine P_callIN0 (pc' := 162) dX8_init_159 rfl lk_X8_76 (c_X4_init (d := 2) (S := k8S41) (I := k8M41) (o := 40) ⟨(by decide +kernel), (by decide +kernel)⟩ (by decide +kernel) (by decide)) (by omega) (Nat.le_of_ble_eq_true rfl) (fun r S' I' hq => ?_)
  obtain ⟨rfl, rfl, rfl⟩ := hq
  refine P_fd (S' := k8S42) (I' := k8M42) rfl rfl ?_
  refine P_aast14 (pc' := 163) (n := 5) (n2 := 0) (j := 0) dX8_init_162 rfl (by decide +kernel) (by decide +kernel) rfl (by decide) (by decide) (by decide +kernel) (by decide +kernel) ?_
  refine P_fd (S' := k8S43) (I' := k8M43) rfl rfl ?_
  refine P_iinc1 (pc' := 166) (v := 1) dX8_init_163 rfl (by decide) (by decide) rfl ?_
  refine P_goto (tgt := 145) dX8_init_166 rfl ?_
  refine P_iload1 (pc' := 146) dX8_init_145 rfl ?_
  refine P_iconst (pc' := 147) dX8_init_146 rfl (v := 5) rfl ?_
  refine P_icmp_ge (tgt := 169) (pc' := 150) dX8_init_147 rfl rfl (fun h => absurd h (by decide)) (fun h => ?_)
  refine P_aload0 (pc' := 151) dX8_init_150 rfl ?_
  refine P_getr (pc' := 154) (n := 0) (b := 30) dX8_init_151 rfl fl_X8_63 rfl (by decide +kernel) (by decide +kernel) (by decide +kernel) ?_
  refine P_iload1 (pc' := 155) dX8_init_154 rfl ?_
  refine P_new (pc' := 158) dX8_init_155 rfl cl_X8_61 (by decide +kernel) ?_
  refine P_fd (S' := k8S44) (I' := k8M44) rfl rfl ?_
  refine P_ra (b := 43) (by decide +kernel) ?_
  refine P_dup (pc' := 159) dX8_init_158 rfl rfl ?_
  refine P_callIN0 (pc' := 162) dX8_init_159 rfl lk_X8_76 (c_X4_init (d := 2) (S := k8S44) (I := k8M44) (o := 43) ⟨(by decide +kernel), (by decide +kernel)⟩ (by decide +kernel) (by decide)) (by omega) (Nat.le_of_ble_eq_true rfl) (fun r S' I' hq => ?_)
  obtain ⟨rfl, rfl, rfl⟩ := hq
  refine P_fd (S' := k8S45) (I' := k8M45) rfl rfl ?_
  refine P_aast14 (pc' := 163) (n := 5) (n2 := 0) (j := 1) dX8_init_162 rfl (by decide +kernel) (by decide +kernel) rfl (by decide) (by decide) (by decide +kernel) (by decide +kernel) ?_
  refine P_fd (S' := k8S46) (I' := k8M46) rfl rfl ?_
  refine P_iinc1 (pc' := 166) (v := 2) dX8_init_163 rfl (by decide) (by decide) rfl ?_
  refine P_goto (tgt := 145) dX8_init_166 rfl ?_
  refine P_iload1 (pc' := 146) dX8_init_145 rfl ?_
  refine P_iconst (pc' := 147) dX8_init_146 rfl (v := 5) rfl ?_
  refine P_icmp_ge (tgt := 169) (pc' := 150) dX8_init_147 rfl rfl (fun h => absurd h (by decide)) (fun h => ?_)
  refine P_aload0 (pc' := 151) dX8_init_150 rfl ?_
  refine P_getr (pc' := 154) (n := 0) (b := 30) dX8_init_151 rfl fl_X8_63 rfl (by decide +kernel) (by decide +kernel) (by decide +kernel) ?_
  refine P_iload1 (pc' := 155) dX8_init_154 rfl ?_
  refine P_new (pc' := 158) dX8_init_155 rfl cl_X8_61 (by decide +kernel) ?_
  refine P_fd (S' := k8S47) (I' := k8M47) rfl rfl ?_
  refine P_ra (b := 46) (by decide +kernel) ?_
  refine P_dup (pc' := 159) dX8_init_158 rfl rfl ?_
  refine P_callIN0 (pc' := 162) dX8_init_159 rfl lk_X8_76 (c_X4_init (d := 2) (S := k8S47) (I := k8M47) (o := 46) ⟨(by decide +kernel), (by decide +kernel)⟩ (by decide +kernel) (by decide)) (by omega) (Nat.le_of_ble_eq_true rfl) (fun r S' I' hq => ?_)
  obtain ⟨rfl, rfl, rfl⟩ := hq
  refine P_fd (S' := k8S48) (I' := k8M48) rfl rfl ?_
  refine P_aast14 (pc' := 163) (n := 5) (n2 := 0) (j := 2) dX8_init_162 rfl (by decide +kernel) (by decide +kernel) rfl (by decide) (by decide) (by decide +kernel) (by decide +kernel) ?_
  refine P_fd (S' := k8S49) (I' := k8M49) rfl rfl ?_
  refine P_iinc1 (pc' := 166) (v := 3) dX8_init_163 rfl (by decide) (by decide) rfl ?_
  refine P_goto (tgt := 145) dX8_init_166 rfl ?_
  refine P_iload1 (pc' := 146) dX8_init_145 rfl ?_
  refine P_iconst (pc' := 147) dX8_init_146 rfl (v := 5) rfl ?_
  refine P_icmp_ge (tgt := 169) (pc' := 150) dX8_init_147 rfl rfl (fun h => absurd h (by decide)) (fun h => ?_)
  refine P_aload0 (pc' := 151) dX8_init_150 rfl ?_
  refine P_getr (pc' := 154) (n := 0) (b := 30) dX8_init_151 rfl fl_X8_63 rfl (by decide +kernel) (by decide +kernel) (by decide +kernel) ?_
  refine P_iload1 (pc' := 155) dX8_init_154 rfl ?_
  refine P_new (pc' := 158) dX8_init_155 rfl cl_X8_61 (by decide +kernel) ?_
  refine P_fd (S' := k8S50) (I' := k8M50) rfl rfl ?_
  refine P_ra (b := 49) (by decide +kernel) ?_
  refine P_dup (pc' := 159) dX8_init_158 rfl rfl ?_
  refine P_callIN0 (pc' := 162) dX8_init_159 rfl lk_X8_76 (c_X4_init (d := 2) (S := k8S50) (I := k8M50) (o := 49) ⟨(by decide +kernel), (by decide +kernel)⟩ (by decide +kernel) (by decide)) (by omega) (Nat.le_of_ble_eq_true rfl) (fun r S' I' hq => ?_)
  obtain ⟨rfl, rfl, rfl⟩ := hq
  refine P_fd (S' := k8S51) (I' := k8M51) rfl rfl ?_
  refine P_aast14 (pc' := 163) (n := 5) (n2 := 0) (j := 3) dX8_init_162 rfl (by decide +kernel) (by decide +kernel) rfl (by decide) (by decide) (by decide +kernel) (by decide +kernel) ?_
  refine P_fd (S' := k8S52) (I' := k8M52) rfl rfl ?_
  refine P_iinc1 (pc' := 166) (v := 4) dX8_init_163 rfl (by decide) (by decide) rfl ?_
  refine P_goto (tgt := 145) dX8_init_166 rfl ?_
  refine P_iload1 (pc' := 146) dX8_init_145 rfl ?_
  refine P_iconst (pc' := 147) dX8_init_146 rfl (v := 5) rfl ?_
  refine P_icmp_ge (tgt := 169) (pc' := 150) dX8_init_147 rfl rfl (fun h => absurd h (by decide)) (fun h => ?_)
  refine P_aload0 (pc' := 151) dX8_init_150 rfl ?_
  refine P_getr (pc' := 154) (n := 0) (b := 30) dX8_init_151 rfl fl_X8_63 rfl (by decide +kernel) (by decide +kernel) (by decide +kernel) ?_
  refine P_iload1 (pc' := 155) dX8_init_154 rfl ?_
  refine P_new (pc' := 158) dX8_init_155 rfl cl_X8_61 (by decide +kernel) ?_
  refine P_fd (S' := k8S53) (I' := k8M53) rfl rfl ?_
  refine P_ra (b := 52) (by decide +kernel) ?_
  refine P_dup (pc' := 159) dX8_init_158 rfl rfl ?_
  refine P_callIN0 (pc' := 162) dX8_init_159 rfl lk_X8_76 (c_X4_init (d := 2) (S := k8S53) (I := k8M53) (o := 52) ⟨(by decide +kernel), (by decide +kernel)⟩ (by decide +kernel) (by decide)) (by omega) (Nat.le_of_ble_eq_true rfl) (fun r S' I' hq => ?_)
  obtain ⟨rfl, rfl, rfl⟩ := hq
  refine P_fd (S' := k8S54) (I' := k8M54) rfl rfl ?_
  refine P_aast14 (pc' := 163) (n := 5) (n2 := 0) (j := 4) dX8_init_162 rfl (by decide +kernel) (by decide +kernel) rfl (by decide) (by decide) (by decide +kernel) (by decide +kernel) ?_
  refine P_fd (S' := k8S55) (I' := k8M55) rfl rfl ?_
  refine P_iinc1 (pc' := 166) (v := 5) dX8_init_163 rfl (by decide) (by decide) rfl ?_
  refine P_goto (tgt := 145) dX8_init_166 rfl ?_
  refine P_iload1 (pc' := 146) dX8_init_145 rfl ?_
  refine P_iconst (pc' := 147) dX8_init_146 rfl (v := 5) rfl ?_
  refine P_icmp_ge (tgt := 169) (pc' := 150) dX8_init_147 rfl rfl (fun h => ?_) (fun h => absurd h (by decide))
  refine P_vret dX8_init_169 ?_
  exact ⟨rfl, rfl, rfl⟩
