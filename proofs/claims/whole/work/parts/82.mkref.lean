/-! the reference is made -/
def k9S0 : Shp := nS k8S53 (8, 0)
def k9M0 : Mem := nM k8S53 k8M53
theorem k9B0 : NB k9S0 := nb_n k8B53
def k9S1 : Shp := nS k9S0 (9, 1433)
def k9M1 : Mem := nM k9S0 k9M0
theorem k9B1 : NB (k9S1) := nb_n k9B0
def k9S2 : Shp := (k9S1.1, k9S1.2.1, p2 k9S1.2.2 55 0 (some 56))
def k9M2 : Mem := k9M1
theorem k9B2 : NB (k9S2) := nb_p k9B1 (by decide)
def k9S3 : Shp := nS k9S2 (9, 1433)
def k9M3 : Mem := nM k9S2 k9M2
theorem k9B3 : NB (k9S3) := nb_n k9B2
def k9S4 : Shp := (k9S3.1, k9S3.2.1, p2 k9S3.2.2 55 1 (some 57))
def k9M4 : Mem := k9M3
theorem k9B4 : NB (k9S4) := nb_p k9B3 (by decide)
def k9S5 : Shp := nS k9S4 (9, 1433)
def k9M5 : Mem := nM k9S4 k9M4
theorem k9B5 : NB (k9S5) := nb_n k9B4
def k9S6 : Shp := (k9S5.1, k9S5.2.1, p2 k9S5.2.2 55 2 (some 58))
def k9M6 : Mem := k9M5
theorem k9B6 : NB (k9S6) := nb_p k9B5 (by decide)
def k9S7 : Shp := nS k9S6 (9, 61)
def k9M7 : Mem := nM k9S6 k9M6
theorem k9B7 : NB (k9S7) := nb_n k9B6
def k9S8 : Shp := (k9S7.1, k9S7.2.1, p2 k9S7.2.2 55 4 (some 59))
def k9M8 : Mem := k9M7
theorem k9B8 : NB (k9S8) := nb_p k9B7 (by decide)
def k9S9 : Shp := nS k9S8 (9, 96)
def k9M9 : Mem := nM k9S8 k9M8
theorem k9B9 : NB (k9S9) := nb_n k9B8
def k9S10 : Shp := (k9S9.1, k9S9.2.1, p2 k9S9.2.2 55 5 (some 60))
def k9M10 : Mem := k9M9
theorem k9B10 : NB (k9S10) := nb_p k9B9 (by decide)
def k9S11 : Shp := nS k9S10 (12, 11)
def k9M11 : Mem := nM k9S10 k9M10
theorem k9B11 : NB (k9S11) := nb_n k9B10
def k9S12 : Shp := k9S11
def k9M12 : Mem := u2 k9M11 61 0 (vp_nar .char 97)
theorem k9B12 : NB (k9S12) := k9B11
def k9S13 : Shp := k9S12
def k9M13 : Mem := u2 k9M12 61 1 (vp_nar .char 108)
theorem k9B13 : NB (k9S13) := k9B12
def k9S14 : Shp := k9S13
def k9M14 : Mem := u2 k9M13 61 2 (vp_nar .char 109)
theorem k9B14 : NB (k9S14) := k9B13
def k9S15 : Shp := k9S14
def k9M15 : Mem := u2 k9M14 61 3 (vp_nar .char 115)
theorem k9B15 : NB (k9S15) := k9B14
def k9S16 : Shp := k9S15
def k9M16 : Mem := u2 k9M15 61 4 (vp_nar .char 102)
theorem k9B16 : NB (k9S16) := k9B15
def k9S17 : Shp := k9S16
def k9M17 : Mem := u2 k9M16 61 5 (vp_nar .char 101)
theorem k9B17 : NB (k9S17) := k9B16
def k9S18 : Shp := k9S17
def k9M18 : Mem := u2 k9M17 61 6 (vp_nar .char 101)
theorem k9B18 : NB (k9S18) := k9B17
def k9S19 : Shp := k9S18
def k9M19 : Mem := u2 k9M18 61 7 (vp_nar .char 102)
theorem k9B19 : NB (k9S19) := k9B18
def k9S20 : Shp := k9S19
def k9M20 : Mem := u2 k9M19 61 8 (vp_nar .char 105)
theorem k9B20 : NB (k9S20) := k9B19
def k9S21 : Shp := k9S20
def k9M21 : Mem := u2 k9M20 61 9 (vp_nar .char 110)
theorem k9B21 : NB (k9S21) := k9B20
def k9S22 : Shp := k9S21
def k9M22 : Mem := u2 k9M21 61 10 (vp_nar .char 101)
theorem k9B22 : NB (k9S22) := k9B21
def k9S23 : Shp := (k9S22.1, k9S22.2.1, p2 k9S22.2.2 55 13 (some 61))
def k9M23 : Mem := k9M22
theorem k9B23 : NB (k9S23) := nb_p k9B22 (by decide)
def k9S24 : Shp := nS k9S23 (9, 4)
def k9M24 : Mem := nM k9S23 k9M23
theorem k9B24 : NB (k9S24) := nb_n k9B23
def k9S25 : Shp := k9S24
def k9M25 : Mem := u2 k9M24 62 0 0
theorem k9B25 : NB (k9S25) := k9B24
def k9S26 : Shp := k9S25
def k9M26 : Mem := u2 k9M25 62 1 4
theorem k9B26 : NB (k9S26) := k9B25
def k9S27 : Shp := k9S26
def k9M27 : Mem := u2 k9M26 62 2 7
theorem k9B27 : NB (k9S27) := k9B26
def k9S28 : Shp := k9S27
def k9M28 : Mem := u2 k9M27 62 3 11
theorem k9B28 : NB (k9S28) := k9B27
def k9S29 : Shp := (k9S28.1, k9S28.2.1, p2 k9S28.2.2 55 14 (some 62))
def k9M29 : Mem := k9M28
theorem k9B29 : NB (k9S29) := nb_p k9B28 (by decide)
def k9S30 : Shp := nS k9S29 (9, 96)
def k9M30 : Mem := nM k9S29 k9M29
theorem k9B30 : NB (k9S30) := nb_n k9B29
def k9S31 : Shp := (k9S30.1, k9S30.2.1, p2 k9S30.2.2 55 15 (some 63))
def k9M31 : Mem := k9M30
theorem k9B31 : NB (k9S31) := nb_p k9B30 (by decide)
def k9S32 : Shp := nS k9S31 (9, 96)
def k9M32 : Mem := nM k9S31 k9M31
theorem k9B32 : NB (k9S32) := nb_n k9B31
def k9S33 : Shp := (k9S32.1, k9S32.2.1, p2 k9S32.2.2 55 18 (some 64))
def k9M33 : Mem := k9M32
theorem k9B33 : NB (k9S33) := nb_p k9B32 (by decide)
def k9S34 : Shp := nS k9S33 (11, 10)
def k9M34 : Mem := nM k9S33 k9M33
theorem k9B34 : NB (k9S34) := nb_n k9B33
def k9S35 : Shp := (k9S34.1, k9S34.2.1, p2 k9S34.2.2 55 20 (some 65))
def k9M35 : Mem := k9M34
theorem k9B35 : NB (k9S35) := nb_p k9B34 (by decide)
def k9S36 : Shp := nS k9S35 (9, 96)
def k9M36 : Mem := nM k9S35 k9M35
theorem k9B36 : NB (k9S36) := nb_n k9B35
def k9S37 : Shp := (k9S36.1, k9S36.2.1, p2 k9S36.2.2 55 21 (some 66))
def k9M37 : Mem := k9M36
theorem k9B37 : NB (k9S37) := nb_p k9B36 (by decide)
def k9S38 : Shp := nS k9S37 (9, 4)
def k9M38 : Mem := nM k9S37 k9M37
theorem k9B38 : NB (k9S38) := nb_n k9B37
def k9S39 : Shp := (k9S38.1, k9S38.2.1, p2 k9S38.2.2 55 22 (some 67))
def k9M39 : Mem := k9M38
theorem k9B39 : NB (k9S39) := nb_p k9B38 (by decide)
def k9S40 : Shp := nS k9S39 (9, 4)
def k9M40 : Mem := nM k9S39 k9M39
theorem k9B40 : NB (k9S40) := nb_n k9B39
def k9S41 : Shp := k9S40
def k9M41 : Mem := u2 k9M40 68 0 (-1)
theorem k9B41 : NB (k9S41) := k9B40
def k9S42 : Shp := k9S41
def k9M42 : Mem := u2 k9M41 68 1 (-1)
theorem k9B42 : NB (k9S42) := k9B41
def k9S43 : Shp := k9S42
def k9M43 : Mem := u2 k9M42 68 2 (-1)
theorem k9B43 : NB (k9S43) := k9B42
def k9S44 : Shp := k9S43
def k9M44 : Mem := u2 k9M43 68 3 (-1)
theorem k9B44 : NB (k9S44) := k9B43
def k9S45 : Shp := (k9S44.1, k9S44.2.1, p2 k9S44.2.2 55 23 (some 68))
def k9M45 : Mem := k9M44
theorem k9B45 : NB (k9S45) := nb_p k9B44 (by decide)
def k9S46 : Shp := nS k9S45 (9, 4)
def k9M46 : Mem := nM k9S45 k9M45
theorem k9B46 : NB (k9S46) := nb_n k9B45
def k9S47 : Shp := (k9S46.1, k9S46.2.1, p2 k9S46.2.2 55 24 (some 69))
def k9M47 : Mem := k9M46
theorem k9B47 : NB (k9S47) := nb_p k9B46 (by decide)
def k9S48 : Shp := nS k9S47 (9, 96)
def k9M48 : Mem := nM k9S47 k9M47
theorem k9B48 : NB (k9S48) := nb_n k9B47
def k9S49 : Shp := (k9S48.1, k9S48.2.1, p2 k9S48.2.2 55 25 (some 70))
def k9M49 : Mem := k9M48
theorem k9B49 : NB (k9S49) := nb_p k9B48 (by decide)
def k9S50 : Shp := nS k9S49 (9, 5)
def k9M50 : Mem := nM k9S49 k9M49
theorem k9B50 : NB (k9S50) := nb_n k9B49
def k9S51 : Shp := (k9S50.1, k9S50.2.1, p2 k9S50.2.2 55 26 (some 71))
def k9M51 : Mem := k9M50
theorem k9B51 : NB (k9S51) := nb_p k9B50 (by decide)
def k9S52 : Shp := nS k9S51 (9, 5)
def k9M52 : Mem := nM k9S51 k9M51
theorem k9B52 : NB (k9S52) := nb_n k9B51
def k9S53 : Shp := (k9S52.1, k9S52.2.1, p2 k9S52.2.2 55 27 (some 72))
def k9M53 : Mem := k9M52
theorem k9B53 : NB (k9S53) := nb_p k9B52 (by decide)
def k9S54 : Shp := nS k9S53 (9, 5)
def k9M54 : Mem := nM k9S53 k9M53
theorem k9B54 : NB (k9S54) := nb_n k9B53
def k9S55 : Shp := (k9S54.1, k9S54.2.1, p2 k9S54.2.2 55 28 (some 73))
def k9M55 : Mem := k9M54
theorem k9B55 : NB (k9S55) := nb_p k9B54 (by decide)
def k9S56 : Shp := nS k9S55 (9, 120)
def k9M56 : Mem := nM k9S55 k9M55
theorem k9B56 : NB (k9S56) := nb_n k9B55
def k9S57 : Shp := (k9S56.1, k9S56.2.1, p2 k9S56.2.2 55 29 (some 74))
def k9M57 : Mem := k9M56
theorem k9B57 : NB (k9S57) := nb_p k9B56 (by decide)
def k9S58 : Shp := nS k9S57 (9, 24)
def k9M58 : Mem := nM k9S57 k9M57
theorem k9B58 : NB (k9S58) := nb_n k9B57
def k9S59 : Shp := (k9S58.1, k9S58.2.1, p2 k9S58.2.2 55 30 (some 75))
def k9M59 : Mem := k9M58
theorem k9B59 : NB (k9S59) := nb_p k9B58 (by decide)
def k9S60 : Shp := nS k9S59 (9, 60)
def k9M60 : Mem := nM k9S59 k9M59
theorem k9B60 : NB (k9S60) := nb_n k9B59
def k9S61 : Shp := (k9S60.1, k9S60.2.1, p2 k9S60.2.2 55 31 (some 76))
def k9M61 : Mem := k9M60
theorem k9B61 : NB (k9S61) := nb_p k9B60 (by decide)
def k9S62 : Shp := k9S61
def k9M62 : Mem := u2 k9M61 56 0 1
theorem k9B62 : NB (k9S62) := k9B61
def k9S63 : Shp := k9S62
def k9M63 : Mem := u2 k9M62 56 3 20
theorem k9B63 : NB (k9S63) := k9B62
def k9S64 : Shp := k9S63
def k9M64 : Mem := u2 k9M63 56 5 8
theorem k9B64 : NB (k9S64) := k9B63
theorem c_X9_init {G : GX} {d : Nat} (hd : 2 ≤ d) : PM G yX9_init cX9_init 1 none d 21 5096 [.ref 55] k9S0 k9M0 (fun r S' J => r = none ∧ S' = k9S64 ∧ J = k9M64) := by
  refine PM.of (ls := [some (.ref 55)]) (by decide) rfl (Nat.le_of_ble_eq_true rfl) rfl ?_
  show PW G RX9 "<init>" _ _ _ _ _ _ _ _ _ _ _ _
  refine PW.room (d := d) (kc := (((((((((((((((((((((0 + 1) + 1) + 1) + 1) + 1) + 1) + 1) + 1) + 1) + 1) + 1) + 1) + 1) + 1) + 1) + 1) + 1) + 1) + 1) + 1) + 1)) (ks := (((((((((((((((((((((0 + 60) + 24) + 120) + 5) + 5) + 5) + 96) + 4) + 4) + 4) + 96) + 10) + 96) + 96) + 4) + 11) + 96) + 61) + 1433) + 1433) + 1433)) ?_ (Nat.le_refl _) (by decide +kernel) (by decide +kernel)
  refine P_aload0 (pc' := 1) dX9_init_0 rfl ?_
  refine P_objInit (pc' := 4) dX9_init_1 rfl lk_X9_1 (by omega) (Nat.le_of_ble_eq_true rfl) ?_
  refine P_aload0 (pc' := 5) dX9_init_4 rfl ?_
  refine P_sipush (pc' := 8) dX9_init_5 rfl (v := 1433) rfl ?_
  refine P_newi (pc' := 10) (N := 1433) dX9_init_8 rfl ac_int rfl (Nat.le_of_ble_eq_true rfl) (by decide +kernel) ?_
  refine P_fd (S' := k9S1) (I' := k9M1) rfl rfl ?_
  refine P_ra (b := 56) (by decide +kernel) ?_
  refine P_putrF (pc' := 13) (n := 0) dX9_init_10 rfl fl_X9_9 rfl (fun _ _ _ z => (congrArg Prod.fst (Option.some.inj z)).symm) (Or.inr ⟨_, rfl⟩) rfl (by decide +kernel) (by decide +kernel) ?_
  refine P_fd (S' := k9S2) (I' := k9M2) rfl rfl ?_
  refine P_aload0 (pc' := 14) dX9_init_13 rfl ?_
  refine P_sipush (pc' := 17) dX9_init_14 rfl (v := 1433) rfl ?_
  refine P_newi (pc' := 19) (N := 1433) dX9_init_17 rfl ac_int rfl (Nat.le_of_ble_eq_true rfl) (by decide +kernel) ?_
  refine P_fd (S' := k9S3) (I' := k9M3) rfl rfl ?_
  refine P_ra (b := 57) (by decide +kernel) ?_
  refine P_putrF (pc' := 22) (n := 0) dX9_init_19 rfl fl_X9_13 rfl (fun _ _ _ z => (congrArg Prod.fst (Option.some.inj z)).symm) (Or.inr ⟨_, rfl⟩) rfl (by decide +kernel) (by decide +kernel) ?_
  refine P_fd (S' := k9S4) (I' := k9M4) rfl rfl ?_
  refine P_aload0 (pc' := 23) dX9_init_22 rfl ?_
  refine P_sipush (pc' := 26) dX9_init_23 rfl (v := 1433) rfl ?_
  refine P_newi (pc' := 28) (N := 1433) dX9_init_26 rfl ac_int rfl (Nat.le_of_ble_eq_true rfl) (by decide +kernel) ?_
  refine P_fd (S' := k9S5) (I' := k9M5) rfl rfl ?_
  refine P_ra (b := 58) (by decide +kernel) ?_
  refine P_putrF (pc' := 31) (n := 0) dX9_init_28 rfl fl_X9_16 rfl (fun _ _ _ z => (congrArg Prod.fst (Option.some.inj z)).symm) (Or.inr ⟨_, rfl⟩) rfl (by decide +kernel) (by decide +kernel) ?_
  refine P_fd (S' := k9S6) (I' := k9M6) rfl rfl ?_
  refine P_aload0 (pc' := 32) dX9_init_31 rfl ?_
  refine P_bipush (pc' := 34) dX9_init_32 rfl (v := 61) rfl ?_
  refine P_newi (pc' := 36) (N := 61) dX9_init_34 rfl ac_int rfl (Nat.le_of_ble_eq_true rfl) (by decide +kernel) ?_
  refine P_fd (S' := k9S7) (I' := k9M7) rfl rfl ?_
  refine P_ra (b := 59) (by decide +kernel) ?_
  refine P_putrF (pc' := 39) (n := 0) dX9_init_36 rfl fl_X9_19 rfl (fun _ _ _ z => (congrArg Prod.fst (Option.some.inj z)).symm) (Or.inr ⟨_, rfl⟩) rfl (by decide +kernel) (by decide +kernel) ?_
  refine P_fd (S' := k9S8) (I' := k9M8) rfl rfl ?_
  refine P_aload0 (pc' := 40) dX9_init_39 rfl ?_
  refine P_bipush (pc' := 42) dX9_init_40 rfl (v := 96) rfl ?_
  refine P_newi (pc' := 44) (N := 96) dX9_init_42 rfl ac_int rfl (Nat.le_of_ble_eq_true rfl) (by decide +kernel) ?_
  refine P_fd (S' := k9S9) (I' := k9M9) rfl rfl ?_
  refine P_ra (b := 60) (by decide +kernel) ?_
  refine P_putrF (pc' := 47) (n := 0) dX9_init_44 rfl fl_X9_22 rfl (fun _ _ _ z => (congrArg Prod.fst (Option.some.inj z)).symm) (Or.inr ⟨_, rfl⟩) rfl (by decide +kernel) (by decide +kernel) ?_
  refine P_fd (S' := k9S10) (I' := k9M10) rfl rfl ?_
  refine P_aload0 (pc' := 48) dX9_init_47 rfl ?_
  refine P_bipush (pc' := 50) dX9_init_48 rfl (v := 11) rfl ?_
  refine P_newch (pc' := 52) (N := 11) dX9_init_50 rfl ac_char rfl (Nat.le_of_ble_eq_true rfl) (by decide +kernel) ?_
  refine P_fd (S' := k9S11) (I' := k9M11) rfl rfl ?_
  refine P_ra (b := 61) (by decide +kernel) ?_
  refine P_dup (pc' := 53) dX9_init_52 rfl rfl ?_
  refine P_iconst (pc' := 54) dX9_init_53 rfl (v := 0) rfl ?_
  refine P_bipush (pc' := 56) dX9_init_54 rfl (v := 97) rfl ?_
  refine P_cast (pc' := 57) (n := 11) (j := 0) dX9_init_56 rfl (by decide +kernel) (by decide +kernel) rfl (by decide) (by decide) ?_
  refine P_fd (S' := k9S12) (I' := k9M12) rfl rfl ?_
  refine P_dup (pc' := 58) dX9_init_57 rfl rfl ?_
  refine P_iconst (pc' := 59) dX9_init_58 rfl (v := 1) rfl ?_
  refine P_bipush (pc' := 61) dX9_init_59 rfl (v := 108) rfl ?_
  refine P_cast (pc' := 62) (n := 11) (j := 1) dX9_init_61 rfl (by decide +kernel) (by decide +kernel) rfl (by decide) (by decide) ?_
  refine P_fd (S' := k9S13) (I' := k9M13) rfl rfl ?_
  refine P_dup (pc' := 63) dX9_init_62 rfl rfl ?_
  refine P_iconst (pc' := 64) dX9_init_63 rfl (v := 2) rfl ?_
  refine P_bipush (pc' := 66) dX9_init_64 rfl (v := 109) rfl ?_
  refine P_cast (pc' := 67) (n := 11) (j := 2) dX9_init_66 rfl (by decide +kernel) (by decide +kernel) rfl (by decide) (by decide) ?_
  refine P_fd (S' := k9S14) (I' := k9M14) rfl rfl ?_
  refine P_dup (pc' := 68) dX9_init_67 rfl rfl ?_
  refine P_iconst (pc' := 69) dX9_init_68 rfl (v := 3) rfl ?_
  refine P_bipush (pc' := 71) dX9_init_69 rfl (v := 115) rfl ?_
  refine P_cast (pc' := 72) (n := 11) (j := 3) dX9_init_71 rfl (by decide +kernel) (by decide +kernel) rfl (by decide) (by decide) ?_
  refine P_fd (S' := k9S15) (I' := k9M15) rfl rfl ?_
  refine P_dup (pc' := 73) dX9_init_72 rfl rfl ?_
  refine P_iconst (pc' := 74) dX9_init_73 rfl (v := 4) rfl ?_
  refine P_bipush (pc' := 76) dX9_init_74 rfl (v := 102) rfl ?_
  refine P_cast (pc' := 77) (n := 11) (j := 4) dX9_init_76 rfl (by decide +kernel) (by decide +kernel) rfl (by decide) (by decide) ?_
  refine P_fd (S' := k9S16) (I' := k9M16) rfl rfl ?_
  refine P_dup (pc' := 78) dX9_init_77 rfl rfl ?_
  refine P_iconst (pc' := 79) dX9_init_78 rfl (v := 5) rfl ?_
  refine P_bipush (pc' := 81) dX9_init_79 rfl (v := 101) rfl ?_
  refine P_cast (pc' := 82) (n := 11) (j := 5) dX9_init_81 rfl (by decide +kernel) (by decide +kernel) rfl (by decide) (by decide) ?_
  refine P_fd (S' := k9S17) (I' := k9M17) rfl rfl ?_
  refine P_dup (pc' := 83) dX9_init_82 rfl rfl ?_
  refine P_bipush (pc' := 85) dX9_init_83 rfl (v := 6) rfl ?_
  refine P_bipush (pc' := 87) dX9_init_85 rfl (v := 101) rfl ?_
  refine P_cast (pc' := 88) (n := 11) (j := 6) dX9_init_87 rfl (by decide +kernel) (by decide +kernel) rfl (by decide) (by decide) ?_
  refine P_fd (S' := k9S18) (I' := k9M18) rfl rfl ?_
  refine P_dup (pc' := 89) dX9_init_88 rfl rfl ?_
  refine P_bipush (pc' := 91) dX9_init_89 rfl (v := 7) rfl ?_
  refine P_bipush (pc' := 93) dX9_init_91 rfl (v := 102) rfl ?_
  refine P_cast (pc' := 94) (n := 11) (j := 7) dX9_init_93 rfl (by decide +kernel) (by decide +kernel) rfl (by decide) (by decide) ?_
  refine P_fd (S' := k9S19) (I' := k9M19) rfl rfl ?_
  refine P_dup (pc' := 95) dX9_init_94 rfl rfl ?_
  refine P_bipush (pc' := 97) dX9_init_95 rfl (v := 8) rfl ?_
  refine P_bipush (pc' := 99) dX9_init_97 rfl (v := 105) rfl ?_
  refine P_cast (pc' := 100) (n := 11) (j := 8) dX9_init_99 rfl (by decide +kernel) (by decide +kernel) rfl (by decide) (by decide) ?_
  refine P_fd (S' := k9S20) (I' := k9M20) rfl rfl ?_
  refine P_dup (pc' := 101) dX9_init_100 rfl rfl ?_
  refine P_bipush (pc' := 103) dX9_init_101 rfl (v := 9) rfl ?_
  refine P_bipush (pc' := 105) dX9_init_103 rfl (v := 110) rfl ?_
  refine P_cast (pc' := 106) (n := 11) (j := 9) dX9_init_105 rfl (by decide +kernel) (by decide +kernel) rfl (by decide) (by decide) ?_
  refine P_fd (S' := k9S21) (I' := k9M21) rfl rfl ?_
  refine P_dup (pc' := 107) dX9_init_106 rfl rfl ?_
  refine P_bipush (pc' := 109) dX9_init_107 rfl (v := 10) rfl ?_
  refine P_bipush (pc' := 111) dX9_init_109 rfl (v := 101) rfl ?_
  refine P_cast (pc' := 112) (n := 11) (j := 10) dX9_init_111 rfl (by decide +kernel) (by decide +kernel) rfl (by decide) (by decide) ?_
  refine P_fd (S' := k9S22) (I' := k9M22) rfl rfl ?_
  refine P_putrF (pc' := 115) (n := 0) dX9_init_112 rfl fl_X9_25 rfl (fun _ _ _ z => (congrArg Prod.fst (Option.some.inj z)).symm) (Or.inr ⟨_, rfl⟩) rfl (by decide +kernel) (by decide +kernel) ?_
  refine P_fd (S' := k9S23) (I' := k9M23) rfl rfl ?_
  refine P_aload0 (pc' := 116) dX9_init_115 rfl ?_
  refine P_iconst (pc' := 117) dX9_init_116 rfl (v := 4) rfl ?_
  refine P_newi (pc' := 119) (N := 4) dX9_init_117 rfl ac_int rfl (Nat.le_of_ble_eq_true rfl) (by decide +kernel) ?_
  refine P_fd (S' := k9S24) (I' := k9M24) rfl rfl ?_
  refine P_ra (b := 62) (by decide +kernel) ?_
  refine P_dup (pc' := 120) dX9_init_119 rfl rfl ?_
  refine P_iconst (pc' := 121) dX9_init_120 rfl (v := 0) rfl ?_
  refine P_iconst (pc' := 122) dX9_init_121 rfl (v := 0) rfl ?_
  refine P_iast (pc' := 123) (n := 4) (j := 0) dX9_init_122 rfl (by decide +kernel) (by decide +kernel) rfl (by decide) (by decide) ?_
  refine P_fd (S' := k9S25) (I' := k9M25) rfl rfl ?_
  refine P_dup (pc' := 124) dX9_init_123 rfl rfl ?_
  refine P_iconst (pc' := 125) dX9_init_124 rfl (v := 1) rfl ?_
  refine P_iconst (pc' := 126) dX9_init_125 rfl (v := 4) rfl ?_
  refine P_iast (pc' := 127) (n := 4) (j := 1) dX9_init_126 rfl (by decide +kernel) (by decide +kernel) rfl (by decide) (by decide) ?_
  refine P_fd (S' := k9S26) (I' := k9M26) rfl rfl ?_
  refine P_dup (pc' := 128) dX9_init_127 rfl rfl ?_
  refine P_iconst (pc' := 129) dX9_init_128 rfl (v := 2) rfl ?_
  refine P_bipush (pc' := 131) dX9_init_129 rfl (v := 7) rfl ?_
  refine P_iast (pc' := 132) (n := 4) (j := 2) dX9_init_131 rfl (by decide +kernel) (by decide +kernel) rfl (by decide) (by decide) ?_
  refine P_fd (S' := k9S27) (I' := k9M27) rfl rfl ?_
  refine P_dup (pc' := 133) dX9_init_132 rfl rfl ?_
  refine P_iconst (pc' := 134) dX9_init_133 rfl (v := 3) rfl ?_
  refine P_bipush (pc' := 136) dX9_init_134 rfl (v := 11) rfl ?_
  refine P_iast (pc' := 137) (n := 4) (j := 3) dX9_init_136 rfl (by decide +kernel) (by decide +kernel) rfl (by decide) (by decide) ?_
  refine P_fd (S' := k9S28) (I' := k9M28) rfl rfl ?_
  refine P_putrF (pc' := 140) (n := 0) dX9_init_137 rfl fl_X9_29 rfl (fun _ _ _ z => (congrArg Prod.fst (Option.some.inj z)).symm) (Or.inr ⟨_, rfl⟩) rfl (by decide +kernel) (by decide +kernel) ?_
  refine P_fd (S' := k9S29) (I' := k9M29) rfl rfl ?_
  refine P_aload0 (pc' := 141) dX9_init_140 rfl ?_
  refine P_bipush (pc' := 143) dX9_init_141 rfl (v := 96) rfl ?_
  refine P_newi (pc' := 145) (N := 96) dX9_init_143 rfl ac_int rfl (Nat.le_of_ble_eq_true rfl) (by decide +kernel) ?_
  refine P_fd (S' := k9S30) (I' := k9M30) rfl rfl ?_
  refine P_ra (b := 63) (by decide +kernel) ?_
  refine P_putrF (pc' := 148) (n := 0) dX9_init_145 rfl fl_X9_32 rfl (fun _ _ _ z => (congrArg Prod.fst (Option.some.inj z)).symm) (Or.inr ⟨_, rfl⟩) rfl (by decide +kernel) (by decide +kernel) ?_
  refine P_fd (S' := k9S31) (I' := k9M31) rfl rfl ?_
  refine P_aload0 (pc' := 149) dX9_init_148 rfl ?_
  refine P_bipush (pc' := 151) dX9_init_149 rfl (v := 96) rfl ?_
  refine P_newi (pc' := 153) (N := 96) dX9_init_151 rfl ac_int rfl (Nat.le_of_ble_eq_true rfl) (by decide +kernel) ?_
  refine P_fd (S' := k9S32) (I' := k9M32) rfl rfl ?_
  refine P_ra (b := 64) (by decide +kernel) ?_
  refine P_putrF (pc' := 156) (n := 0) dX9_init_153 rfl fl_X9_35 rfl (fun _ _ _ z => (congrArg Prod.fst (Option.some.inj z)).symm) (Or.inr ⟨_, rfl⟩) rfl (by decide +kernel) (by decide +kernel) ?_
  refine P_fd (S' := k9S33) (I' := k9M33) rfl rfl ?_
  refine P_aload0 (pc' := 157) dX9_init_156 rfl ?_
  refine P_bipush (pc' := 159) dX9_init_157 rfl (v := 10) rfl ?_
  refine P_newz (pc' := 161) (N := 10) dX9_init_159 rfl ac_boolean rfl (Nat.le_of_ble_eq_true rfl) (by decide +kernel) ?_
  refine P_fd (S' := k9S34) (I' := k9M34) rfl rfl ?_
  refine P_ra (b := 65) (by decide +kernel) ?_
  refine P_putrF (pc' := 164) (n := 0) dX9_init_161 rfl fl_X9_38 rfl (fun _ _ _ z => (congrArg Prod.fst (Option.some.inj z)).symm) (Or.inr ⟨_, rfl⟩) rfl (by decide +kernel) (by decide +kernel) ?_
  refine P_fd (S' := k9S35) (I' := k9M35) rfl rfl ?_
  refine P_aload0 (pc' := 165) dX9_init_164 rfl ?_
  refine P_bipush (pc' := 167) dX9_init_165 rfl (v := 96) rfl ?_
  refine P_newi (pc' := 169) (N := 96) dX9_init_167 rfl ac_int rfl (Nat.le_of_ble_eq_true rfl) (by decide +kernel) ?_
  refine P_fd (S' := k9S36) (I' := k9M36) rfl rfl ?_
  refine P_ra (b := 66) (by decide +kernel) ?_
  refine P_putrF (pc' := 172) (n := 0) dX9_init_169 rfl fl_X9_42 rfl (fun _ _ _ z => (congrArg Prod.fst (Option.some.inj z)).symm) (Or.inr ⟨_, rfl⟩) rfl (by decide +kernel) (by decide +kernel) ?_
  refine P_fd (S' := k9S37) (I' := k9M37) rfl rfl ?_
  refine P_aload0 (pc' := 173) dX9_init_172 rfl ?_
  refine P_iconst (pc' := 174) dX9_init_173 rfl (v := 4) rfl ?_
  refine P_newi (pc' := 176) (N := 4) dX9_init_174 rfl ac_int rfl (Nat.le_of_ble_eq_true rfl) (by decide +kernel) ?_
  refine P_fd (S' := k9S38) (I' := k9M38) rfl rfl ?_
  refine P_ra (b := 67) (by decide +kernel) ?_
  refine P_putrF (pc' := 179) (n := 0) dX9_init_176 rfl fl_X9_45 rfl (fun _ _ _ z => (congrArg Prod.fst (Option.some.inj z)).symm) (Or.inr ⟨_, rfl⟩) rfl (by decide +kernel) (by decide +kernel) ?_
  refine P_fd (S' := k9S39) (I' := k9M39) rfl rfl ?_
  refine P_aload0 (pc' := 180) dX9_init_179 rfl ?_
  refine P_iconst (pc' := 181) dX9_init_180 rfl (v := 4) rfl ?_
  refine P_newi (pc' := 183) (N := 4) dX9_init_181 rfl ac_int rfl (Nat.le_of_ble_eq_true rfl) (by decide +kernel) ?_
  refine P_fd (S' := k9S40) (I' := k9M40) rfl rfl ?_
  refine P_ra (b := 68) (by decide +kernel) ?_
  refine P_dup (pc' := 184) dX9_init_183 rfl rfl ?_
  refine P_iconst (pc' := 185) dX9_init_184 rfl (v := 0) rfl ?_
  refine P_iconst (pc' := 186) dX9_init_185 rfl (v := (-1)) rfl ?_
  refine P_iast (pc' := 187) (n := 4) (j := 0) dX9_init_186 rfl (by decide +kernel) (by decide +kernel) rfl (by decide) (by decide) ?_
  refine P_fd (S' := k9S41) (I' := k9M41) rfl rfl ?_
  refine P_dup (pc' := 188) dX9_init_187 rfl rfl ?_
  refine P_iconst (pc' := 189) dX9_init_188 rfl (v := 1) rfl ?_
  refine P_iconst (pc' := 190) dX9_init_189 rfl (v := (-1)) rfl ?_
  refine P_iast (pc' := 191) (n := 4) (j := 1) dX9_init_190 rfl (by decide +kernel) (by decide +kernel) rfl (by decide) (by decide) ?_
  refine P_fd (S' := k9S42) (I' := k9M42) rfl rfl ?_
  refine P_dup (pc' := 192) dX9_init_191 rfl rfl ?_
  refine P_iconst (pc' := 193) dX9_init_192 rfl (v := 2) rfl ?_
  refine P_iconst (pc' := 194) dX9_init_193 rfl (v := (-1)) rfl ?_
  refine P_iast (pc' := 195) (n := 4) (j := 2) dX9_init_194 rfl (by decide +kernel) (by decide +kernel) rfl (by decide) (by decide) ?_
  refine P_fd (S' := k9S43) (I' := k9M43) rfl rfl ?_
  refine P_dup (pc' := 196) dX9_init_195 rfl rfl ?_
  refine P_iconst (pc' := 197) dX9_init_196 rfl (v := 3) rfl ?_
  refine P_iconst (pc' := 198) dX9_init_197 rfl (v := (-1)) rfl ?_
  refine P_iast (pc' := 199) (n := 4) (j := 3) dX9_init_198 rfl (by decide +kernel) (by decide +kernel) rfl (by decide) (by decide) ?_
  refine P_fd (S' := k9S44) (I' := k9M44) rfl rfl ?_
  refine P_putrF (pc' := 202) (n := 0) dX9_init_199 rfl fl_X9_48 rfl (fun _ _ _ z => (congrArg Prod.fst (Option.some.inj z)).symm) (Or.inr ⟨_, rfl⟩) rfl (by decide +kernel) (by decide +kernel) ?_
  refine P_fd (S' := k9S45) (I' := k9M45) rfl rfl ?_
  refine P_aload0 (pc' := 203) dX9_init_202 rfl ?_
  refine P_iconst (pc' := 204) dX9_init_203 rfl (v := 4) rfl ?_
  refine P_newi (pc' := 206) (N := 4) dX9_init_204 rfl ac_int rfl (Nat.le_of_ble_eq_true rfl) (by decide +kernel) ?_
  refine P_fd (S' := k9S46) (I' := k9M46) rfl rfl ?_
  refine P_ra (b := 69) (by decide +kernel) ?_
  refine P_putrF (pc' := 209) (n := 0) dX9_init_206 rfl fl_X9_51 rfl (fun _ _ _ z => (congrArg Prod.fst (Option.some.inj z)).symm) (Or.inr ⟨_, rfl⟩) rfl (by decide +kernel) (by decide +kernel) ?_
  refine P_fd (S' := k9S47) (I' := k9M47) rfl rfl ?_
  refine P_aload0 (pc' := 210) dX9_init_209 rfl ?_
  refine P_bipush (pc' := 212) dX9_init_210 rfl (v := 96) rfl ?_
  refine P_newi (pc' := 214) (N := 96) dX9_init_212 rfl ac_int rfl (Nat.le_of_ble_eq_true rfl) (by decide +kernel) ?_
  refine P_fd (S' := k9S48) (I' := k9M48) rfl rfl ?_
  refine P_ra (b := 70) (by decide +kernel) ?_
  refine P_putrF (pc' := 217) (n := 0) dX9_init_214 rfl fl_X9_54 rfl (fun _ _ _ z => (congrArg Prod.fst (Option.some.inj z)).symm) (Or.inr ⟨_, rfl⟩) rfl (by decide +kernel) (by decide +kernel) ?_
  refine P_fd (S' := k9S49) (I' := k9M49) rfl rfl ?_
  refine P_aload0 (pc' := 218) dX9_init_217 rfl ?_
  refine P_iconst (pc' := 219) dX9_init_218 rfl (v := 5) rfl ?_
  refine P_newi (pc' := 221) (N := 5) dX9_init_219 rfl ac_int rfl (Nat.le_of_ble_eq_true rfl) (by decide +kernel) ?_
  refine P_fd (S' := k9S50) (I' := k9M50) rfl rfl ?_
  refine P_ra (b := 71) (by decide +kernel) ?_
  refine P_putrF (pc' := 224) (n := 0) dX9_init_221 rfl fl_X9_57 rfl (fun _ _ _ z => (congrArg Prod.fst (Option.some.inj z)).symm) (Or.inr ⟨_, rfl⟩) rfl (by decide +kernel) (by decide +kernel) ?_
  refine P_fd (S' := k9S51) (I' := k9M51) rfl rfl ?_
  refine P_aload0 (pc' := 225) dX9_init_224 rfl ?_
  refine P_iconst (pc' := 226) dX9_init_225 rfl (v := 5) rfl ?_
  refine P_newi (pc' := 228) (N := 5) dX9_init_226 rfl ac_int rfl (Nat.le_of_ble_eq_true rfl) (by decide +kernel) ?_
  refine P_fd (S' := k9S52) (I' := k9M52) rfl rfl ?_
  refine P_ra (b := 72) (by decide +kernel) ?_
  refine P_putrF (pc' := 231) (n := 0) dX9_init_228 rfl fl_X9_60 rfl (fun _ _ _ z => (congrArg Prod.fst (Option.some.inj z)).symm) (Or.inr ⟨_, rfl⟩) rfl (by decide +kernel) (by decide +kernel) ?_
  refine P_fd (S' := k9S53) (I' := k9M53) rfl rfl ?_
  refine P_aload0 (pc' := 232) dX9_init_231 rfl ?_
  refine P_iconst (pc' := 233) dX9_init_232 rfl (v := 5) rfl ?_
  refine P_newi (pc' := 235) (N := 5) dX9_init_233 rfl ac_int rfl (Nat.le_of_ble_eq_true rfl) (by decide +kernel) ?_
  refine P_fd (S' := k9S54) (I' := k9M54) rfl rfl ?_
  refine P_ra (b := 73) (by decide +kernel) ?_
  refine P_putrF (pc' := 238) (n := 0) dX9_init_235 rfl fl_X9_63 rfl (fun _ _ _ z => (congrArg Prod.fst (Option.some.inj z)).symm) (Or.inr ⟨_, rfl⟩) rfl (by decide +kernel) (by decide +kernel) ?_
  refine P_fd (S' := k9S55) (I' := k9M55) rfl rfl ?_
  refine P_aload0 (pc' := 239) dX9_init_238 rfl ?_
  refine P_bipush (pc' := 241) dX9_init_239 rfl (v := 120) rfl ?_
  refine P_newi (pc' := 243) (N := 120) dX9_init_241 rfl ac_int rfl (Nat.le_of_ble_eq_true rfl) (by decide +kernel) ?_
  refine P_fd (S' := k9S56) (I' := k9M56) rfl rfl ?_
  refine P_ra (b := 74) (by decide +kernel) ?_
  refine P_putrF (pc' := 246) (n := 0) dX9_init_243 rfl fl_X9_66 rfl (fun _ _ _ z => (congrArg Prod.fst (Option.some.inj z)).symm) (Or.inr ⟨_, rfl⟩) rfl (by decide +kernel) (by decide +kernel) ?_
  refine P_fd (S' := k9S57) (I' := k9M57) rfl rfl ?_
  refine P_aload0 (pc' := 247) dX9_init_246 rfl ?_
  refine P_bipush (pc' := 249) dX9_init_247 rfl (v := 24) rfl ?_
  refine P_newi (pc' := 251) (N := 24) dX9_init_249 rfl ac_int rfl (Nat.le_of_ble_eq_true rfl) (by decide +kernel) ?_
  refine P_fd (S' := k9S58) (I' := k9M58) rfl rfl ?_
  refine P_ra (b := 75) (by decide +kernel) ?_
  refine P_putrF (pc' := 254) (n := 0) dX9_init_251 rfl fl_X9_69 rfl (fun _ _ _ z => (congrArg Prod.fst (Option.some.inj z)).symm) (Or.inr ⟨_, rfl⟩) rfl (by decide +kernel) (by decide +kernel) ?_
  refine P_fd (S' := k9S59) (I' := k9M59) rfl rfl ?_
  refine P_aload0 (pc' := 255) dX9_init_254 rfl ?_
  refine P_bipush (pc' := 257) dX9_init_255 rfl (v := 60) rfl ?_
  refine P_newi (pc' := 259) (N := 60) dX9_init_257 rfl ac_int rfl (Nat.le_of_ble_eq_true rfl) (by decide +kernel) ?_
  refine P_fd (S' := k9S60) (I' := k9M60) rfl rfl ?_
  refine P_ra (b := 76) (by decide +kernel) ?_
  refine P_putrF (pc' := 262) (n := 0) dX9_init_259 rfl fl_X9_72 rfl (fun _ _ _ z => (congrArg Prod.fst (Option.some.inj z)).symm) (Or.inr ⟨_, rfl⟩) rfl (by decide +kernel) (by decide +kernel) ?_
  refine P_fd (S' := k9S61) (I' := k9M61) rfl rfl ?_
  refine P_aload0 (pc' := 263) dX9_init_262 rfl ?_
  refine P_getr (pc' := 266) (n := 0) (b := 56) dX9_init_263 rfl fl_X9_9 rfl (by decide +kernel) (by decide +kernel) (by decide +kernel) ?_
  refine P_iconst (pc' := 267) dX9_init_266 rfl (v := 0) rfl ?_
  refine P_iconst (pc' := 268) dX9_init_267 rfl (v := 1) rfl ?_
  refine P_iast (pc' := 269) (n := 1433) (j := 0) dX9_init_268 rfl (by decide +kernel) (by decide +kernel) rfl (by decide) (by decide) ?_
  refine P_fd (S' := k9S62) (I' := k9M62) rfl rfl ?_
  refine P_aload0 (pc' := 270) dX9_init_269 rfl ?_
  refine P_getr (pc' := 273) (n := 0) (b := 56) dX9_init_270 rfl fl_X9_9 rfl (by decide +kernel) (by decide +kernel) (by decide +kernel) ?_
  refine P_iconst (pc' := 274) dX9_init_273 rfl (v := 3) rfl ?_
  refine P_bipush (pc' := 276) dX9_init_274 rfl (v := 20) rfl ?_
  refine P_iast (pc' := 277) (n := 1433) (j := 3) dX9_init_276 rfl (by decide +kernel) (by decide +kernel) rfl (by decide) (by decide) ?_
  refine P_fd (S' := k9S63) (I' := k9M63) rfl rfl ?_
  refine P_aload0 (pc' := 278) dX9_init_277 rfl ?_
  refine P_getr (pc' := 281) (n := 0) (b := 56) dX9_init_278 rfl fl_X9_9 rfl (by decide +kernel) (by decide +kernel) (by decide +kernel) ?_
  refine P_iconst (pc' := 282) dX9_init_281 rfl (v := 5) rfl ?_
  refine P_bipush (pc' := 284) dX9_init_282 rfl (v := 8) rfl ?_
  refine P_iast (pc' := 285) (n := 1433) (j := 5) dX9_init_284 rfl (by decide +kernel) (by decide +kernel) rfl (by decide) (by decide) ?_
  refine P_fd (S' := k9S64) (I' := k9M64) rfl rfl ?_
  refine P_vret dX9_init_285 ?_
  exact ⟨rfl, rfl, rfl⟩
