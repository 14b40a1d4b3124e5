def tau0 (i : Nat) : Nat × Nat := ([(7, 0), (4, 0), (9, 8), (9, 9), (9, 9), (9, 9), (9, 9), (9, 9), (4, 0), (9, 8), (9, 9), (9, 9), (9, 9), (9, 9), (9, 9), (4, 0), (9, 8), (9, 9), (9, 9), (9, 9), (9, 9), (9, 9), (1, 0), (5, 0), (10, 96), (9, 96), (15, 14), (0, 0), (9, 1890), (13, 4), (14, 5), (9, 60), (2, 0), (9, 24), (2, 0), (9, 24), (2, 0), (9, 24), (2, 0), (9, 24), (3, 0), (2, 0), (9, 24), (3, 0), (2, 0), (9, 24), (3, 0), (2, 0), (9, 24), (3, 0), (2, 0), (9, 24), (3, 0), (2, 0), (9, 24), (8, 0), (9, 1433), (9, 1433), (9, 1433), (9, 61), (9, 96), (12, 11), (9, 4), (9, 96), (9, 96), (11, 10), (9, 96), (9, 4), (9, 4), (9, 4), (9, 96), (9, 5), (9, 5), (9, 5), (9, 120), (9, 24), (9, 60)] : List (Nat × Nat)).getD i (0, 0)
def ptr0 (i j : Nat) : Option Nat := (([[some 1, some 8, some 15, none, some 22, some 23, some 26, some 27, some 29, some 30, some 31], [some 2, some 3, some 4, some 5, some 6, some 7], [], [], [], [], [], [], [some 9, some 10, some 11, some 12, some 13, some 14], [], [], [], [], [], [], [some 16, some 17, some 18, some 19, some 20, some 21], [], [], [], [], [], [], [some 23, none, none, none, none, none, some 25], [some 24], [], [], [], [none, some 28], [], [some 32, some 34, some 36, some 38], [some 40, some 43, some 46, some 49, some 52], [], [none, none, some 33], [], [none, none, some 35], [], [none, none, some 37], [], [none, none, some 39], [], [none, none, none, none, some 41], [none, none, some 42], [], [none, none, none, none, some 44], [none, none, some 45], [], [none, none, none, none, some 47], [none, none, some 48], [], [none, none, none, none, some 50], [none, none, some 51], [], [none, none, none, none, some 53], [none, none, some 54], [], [some 56, some 57, some 58, none, some 59, some 60, none, none, none, none, none, none, none, some 61, some 62, some 63, none, none, some 64, none, some 65, some 66, some 67, some 68, some 69, some 70, some 71, some 72, some 73, some 74, some 75, some 76], [], [], [], [], [], [], [], [], [], [], [], [], [], [], [], [], [], [], [], [], []] : List (List (Option Nat))).getD i []).getD j none
/-- what is made first, and stays: the class's object with all that it holds, then the reference's -/
def SHP (S : Shp) : Prop := 77 ≤ S.1 ∧ S.1 ≤ 3000 ∧ (∀ i, i < 77 → S.2.1 i = tau0 i) ∧ (∀ i j, i < 77 → i ≠ 26 → (i ≠ 27 ∨ j ≠ 0) → S.2.2 i j = ptr0 i j)
def StO (o : Nat) : Prop := o = 1 ∨ o = 8 ∨ o = 15
theorem l_0 {S : Shp} (h : SHP S) : 0 < S.1 := by have := h.1; omega
theorem t_0 {S : Shp} (h : SHP S) : S.2.1 0 = (7, 0) := h.2.2.1 0 (by decide)
theorem q_0_0 {S : Shp} (h : SHP S) : S.2.2 0 0 = some 1 := h.2.2.2 0 0 (by decide) (by decide) (by decide)
theorem q_0_1 {S : Shp} (h : SHP S) : S.2.2 0 1 = some 8 := h.2.2.2 0 1 (by decide) (by decide) (by decide)
theorem q_0_2 {S : Shp} (h : SHP S) : S.2.2 0 2 = some 15 := h.2.2.2 0 2 (by decide) (by decide) (by decide)
theorem q_0_4 {S : Shp} (h : SHP S) : S.2.2 0 4 = some 22 := h.2.2.2 0 4 (by decide) (by decide) (by decide)
theorem q_0_5 {S : Shp} (h : SHP S) : S.2.2 0 5 = some 23 := h.2.2.2 0 5 (by decide) (by decide) (by decide)
theorem q_0_6 {S : Shp} (h : SHP S) : S.2.2 0 6 = some 26 := h.2.2.2 0 6 (by decide) (by decide) (by decide)
theorem q_0_7 {S : Shp} (h : SHP S) : S.2.2 0 7 = some 27 := h.2.2.2 0 7 (by decide) (by decide) (by decide)
theorem q_0_8 {S : Shp} (h : SHP S) : S.2.2 0 8 = some 29 := h.2.2.2 0 8 (by decide) (by decide) (by decide)
theorem q_0_9 {S : Shp} (h : SHP S) : S.2.2 0 9 = some 30 := h.2.2.2 0 9 (by decide) (by decide) (by decide)
theorem q_0_10 {S : Shp} (h : SHP S) : S.2.2 0 10 = some 31 := h.2.2.2 0 10 (by decide) (by decide) (by decide)
theorem l_1 {S : Shp} (h : SHP S) : 1 < S.1 := by have := h.1; omega
theorem t_1 {S : Shp} (h : SHP S) : S.2.1 1 = (4, 0) := h.2.2.1 1 (by decide)
theorem q_1_0 {S : Shp} (h : SHP S) : S.2.2 1 0 = some 2 := h.2.2.2 1 0 (by decide) (by decide) (by decide)
theorem q_1_1 {S : Shp} (h : SHP S) : S.2.2 1 1 = some 3 := h.2.2.2 1 1 (by decide) (by decide) (by decide)
theorem q_1_2 {S : Shp} (h : SHP S) : S.2.2 1 2 = some 4 := h.2.2.2 1 2 (by decide) (by decide) (by decide)
theorem q_1_3 {S : Shp} (h : SHP S) : S.2.2 1 3 = some 5 := h.2.2.2 1 3 (by decide) (by decide) (by decide)
theorem q_1_4 {S : Shp} (h : SHP S) : S.2.2 1 4 = some 6 := h.2.2.2 1 4 (by decide) (by decide) (by decide)
theorem q_1_5 {S : Shp} (h : SHP S) : S.2.2 1 5 = some 7 := h.2.2.2 1 5 (by decide) (by decide) (by decide)
theorem l_2 {S : Shp} (h : SHP S) : 2 < S.1 := by have := h.1; omega
theorem t_2 {S : Shp} (h : SHP S) : S.2.1 2 = (9, 8) := h.2.2.1 2 (by decide)
theorem l_3 {S : Shp} (h : SHP S) : 3 < S.1 := by have := h.1; omega
theorem t_3 {S : Shp} (h : SHP S) : S.2.1 3 = (9, 9) := h.2.2.1 3 (by decide)
theorem l_4 {S : Shp} (h : SHP S) : 4 < S.1 := by have := h.1; omega
theorem t_4 {S : Shp} (h : SHP S) : S.2.1 4 = (9, 9) := h.2.2.1 4 (by decide)
theorem l_5 {S : Shp} (h : SHP S) : 5 < S.1 := by have := h.1; omega
theorem t_5 {S : Shp} (h : SHP S) : S.2.1 5 = (9, 9) := h.2.2.1 5 (by decide)
theorem l_6 {S : Shp} (h : SHP S) : 6 < S.1 := by have := h.1; omega
theorem t_6 {S : Shp} (h : SHP S) : S.2.1 6 = (9, 9) := h.2.2.1 6 (by decide)
theorem l_7 {S : Shp} (h : SHP S) : 7 < S.1 := by have := h.1; omega
theorem t_7 {S : Shp} (h : SHP S) : S.2.1 7 = (9, 9) := h.2.2.1 7 (by decide)
theorem l_8 {S : Shp} (h : SHP S) : 8 < S.1 := by have := h.1; omega
theorem t_8 {S : Shp} (h : SHP S) : S.2.1 8 = (4, 0) := h.2.2.1 8 (by decide)
theorem q_8_0 {S : Shp} (h : SHP S) : S.2.2 8 0 = some 9 := h.2.2.2 8 0 (by decide) (by decide) (by decide)
theorem q_8_1 {S : Shp} (h : SHP S) : S.2.2 8 1 = some 10 := h.2.2.2 8 1 (by decide) (by decide) (by decide)
theorem q_8_2 {S : Shp} (h : SHP S) : S.2.2 8 2 = some 11 := h.2.2.2 8 2 (by decide) (by decide) (by decide)
theorem q_8_3 {S : Shp} (h : SHP S) : S.2.2 8 3 = some 12 := h.2.2.2 8 3 (by decide) (by decide) (by decide)
theorem q_8_4 {S : Shp} (h : SHP S) : S.2.2 8 4 = some 13 := h.2.2.2 8 4 (by decide) (by decide) (by decide)
theorem q_8_5 {S : Shp} (h : SHP S) : S.2.2 8 5 = some 14 := h.2.2.2 8 5 (by decide) (by decide) (by decide)
theorem l_9 {S : Shp} (h : SHP S) : 9 < S.1 := by have := h.1; omega
theorem t_9 {S : Shp} (h : SHP S) : S.2.1 9 = (9, 8) := h.2.2.1 9 (by decide)
theorem l_10 {S : Shp} (h : SHP S) : 10 < S.1 := by have := h.1; omega
theorem t_10 {S : Shp} (h : SHP S) : S.2.1 10 = (9, 9) := h.2.2.1 10 (by decide)
theorem l_11 {S : Shp} (h : SHP S) : 11 < S.1 := by have := h.1; omega
theorem t_11 {S : Shp} (h : SHP S) : S.2.1 11 = (9, 9) := h.2.2.1 11 (by decide)
theorem l_12 {S : Shp} (h : SHP S) : 12 < S.1 := by have := h.1; omega
theorem t_12 {S : Shp} (h : SHP S) : S.2.1 12 = (9, 9) := h.2.2.1 12 (by decide)
theorem l_13 {S : Shp} (h : SHP S) : 13 < S.1 := by have := h.1; omega
theorem t_13 {S : Shp} (h : SHP S) : S.2.1 13 = (9, 9) := h.2.2.1 13 (by decide)
theorem l_14 {S : Shp} (h : SHP S) : 14 < S.1 := by have := h.1; omega
theorem t_14 {S : Shp} (h : SHP S) : S.2.1 14 = (9, 9) := h.2.2.1 14 (by decide)
theorem l_15 {S : Shp} (h : SHP S) : 15 < S.1 := by have := h.1; omega
theorem t_15 {S : Shp} (h : SHP S) : S.2.1 15 = (4, 0) := h.2.2.1 15 (by decide)
theorem q_15_0 {S : Shp} (h : SHP S) : S.2.2 15 0 = some 16 := h.2.2.2 15 0 (by decide) (by decide) (by decide)
theorem q_15_1 {S : Shp} (h : SHP S) : S.2.2 15 1 = some 17 := h.2.2.2 15 1 (by decide) (by decide) (by decide)
theorem q_15_2 {S : Shp} (h : SHP S) : S.2.2 15 2 = some 18 := h.2.2.2 15 2 (by decide) (by decide) (by decide)
theorem q_15_3 {S : Shp} (h : SHP S) : S.2.2 15 3 = some 19 := h.2.2.2 15 3 (by decide) (by decide) (by decide)
theorem q_15_4 {S : Shp} (h : SHP S) : S.2.2 15 4 = some 20 := h.2.2.2 15 4 (by decide) (by decide) (by decide)
theorem q_15_5 {S : Shp} (h : SHP S) : S.2.2 15 5 = some 21 := h.2.2.2 15 5 (by decide) (by decide) (by decide)
theorem l_16 {S : Shp} (h : SHP S) : 16 < S.1 := by have := h.1; omega
theorem t_16 {S : Shp} (h : SHP S) : S.2.1 16 = (9, 8) := h.2.2.1 16 (by decide)
theorem l_17 {S : Shp} (h : SHP S) : 17 < S.1 := by have := h.1; omega
theorem t_17 {S : Shp} (h : SHP S) : S.2.1 17 = (9, 9) := h.2.2.1 17 (by decide)
theorem l_18 {S : Shp} (h : SHP S) : 18 < S.1 := by have := h.1; omega
theorem t_18 {S : Shp} (h : SHP S) : S.2.1 18 = (9, 9) := h.2.2.1 18 (by decide)
theorem l_19 {S : Shp} (h : SHP S) : 19 < S.1 := by have := h.1; omega
theorem t_19 {S : Shp} (h : SHP S) : S.2.1 19 = (9, 9) := h.2.2.1 19 (by decide)
theorem l_20 {S : Shp} (h : SHP S) : 20 < S.1 := by have := h.1; omega
theorem t_20 {S : Shp} (h : SHP S) : S.2.1 20 = (9, 9) := h.2.2.1 20 (by decide)
theorem l_21 {S : Shp} (h : SHP S) : 21 < S.1 := by have := h.1; omega
theorem t_21 {S : Shp} (h : SHP S) : S.2.1 21 = (9, 9) := h.2.2.1 21 (by decide)
theorem l_22 {S : Shp} (h : SHP S) : 22 < S.1 := by have := h.1; omega
theorem t_22 {S : Shp} (h : SHP S) : S.2.1 22 = (1, 0) := h.2.2.1 22 (by decide)
theorem q_22_0 {S : Shp} (h : SHP S) : S.2.2 22 0 = some 23 := h.2.2.2 22 0 (by decide) (by decide) (by decide)
theorem q_22_6 {S : Shp} (h : SHP S) : S.2.2 22 6 = some 25 := h.2.2.2 22 6 (by decide) (by decide) (by decide)
theorem l_23 {S : Shp} (h : SHP S) : 23 < S.1 := by have := h.1; omega
theorem t_23 {S : Shp} (h : SHP S) : S.2.1 23 = (5, 0) := h.2.2.1 23 (by decide)
theorem q_23_0 {S : Shp} (h : SHP S) : S.2.2 23 0 = some 24 := h.2.2.2 23 0 (by decide) (by decide) (by decide)
theorem l_24 {S : Shp} (h : SHP S) : 24 < S.1 := by have := h.1; omega
theorem t_24 {S : Shp} (h : SHP S) : S.2.1 24 = (10, 96) := h.2.2.1 24 (by decide)
theorem l_25 {S : Shp} (h : SHP S) : 25 < S.1 := by have := h.1; omega
theorem t_25 {S : Shp} (h : SHP S) : S.2.1 25 = (9, 96) := h.2.2.1 25 (by decide)
theorem l_26 {S : Shp} (h : SHP S) : 26 < S.1 := by have := h.1; omega
theorem t_26 {S : Shp} (h : SHP S) : S.2.1 26 = (15, 14) := h.2.2.1 26 (by decide)
theorem l_27 {S : Shp} (h : SHP S) : 27 < S.1 := by have := h.1; omega
theorem t_27 {S : Shp} (h : SHP S) : S.2.1 27 = (0, 0) := h.2.2.1 27 (by decide)
theorem q_27_1 {S : Shp} (h : SHP S) : S.2.2 27 1 = some 28 := h.2.2.2 27 1 (by decide) (by decide) (by decide)
theorem l_28 {S : Shp} (h : SHP S) : 28 < S.1 := by have := h.1; omega
theorem t_28 {S : Shp} (h : SHP S) : S.2.1 28 = (9, 1890) := h.2.2.1 28 (by decide)
theorem l_29 {S : Shp} (h : SHP S) : 29 < S.1 := by have := h.1; omega
theorem t_29 {S : Shp} (h : SHP S) : S.2.1 29 = (13, 4) := h.2.2.1 29 (by decide)
theorem q_29_0 {S : Shp} (h : SHP S) : S.2.2 29 0 = some 32 := h.2.2.2 29 0 (by decide) (by decide) (by decide)
theorem q_29_1 {S : Shp} (h : SHP S) : S.2.2 29 1 = some 34 := h.2.2.2 29 1 (by decide) (by decide) (by decide)
theorem q_29_2 {S : Shp} (h : SHP S) : S.2.2 29 2 = some 36 := h.2.2.2 29 2 (by decide) (by decide) (by decide)
theorem q_29_3 {S : Shp} (h : SHP S) : S.2.2 29 3 = some 38 := h.2.2.2 29 3 (by decide) (by decide) (by decide)
theorem l_30 {S : Shp} (h : SHP S) : 30 < S.1 := by have := h.1; omega
theorem t_30 {S : Shp} (h : SHP S) : S.2.1 30 = (14, 5) := h.2.2.1 30 (by decide)
theorem q_30_0 {S : Shp} (h : SHP S) : S.2.2 30 0 = some 40 := h.2.2.2 30 0 (by decide) (by decide) (by decide)
theorem q_30_1 {S : Shp} (h : SHP S) : S.2.2 30 1 = some 43 := h.2.2.2 30 1 (by decide) (by decide) (by decide)
theorem q_30_2 {S : Shp} (h : SHP S) : S.2.2 30 2 = some 46 := h.2.2.2 30 2 (by decide) (by decide) (by decide)
theorem q_30_3 {S : Shp} (h : SHP S) : S.2.2 30 3 = some 49 := h.2.2.2 30 3 (by decide) (by decide) (by decide)
theorem q_30_4 {S : Shp} (h : SHP S) : S.2.2 30 4 = some 52 := h.2.2.2 30 4 (by decide) (by decide) (by decide)
theorem l_31 {S : Shp} (h : SHP S) : 31 < S.1 := by have := h.1; omega
theorem t_31 {S : Shp} (h : SHP S) : S.2.1 31 = (9, 60) := h.2.2.1 31 (by decide)
theorem l_32 {S : Shp} (h : SHP S) : 32 < S.1 := by have := h.1; omega
theorem t_32 {S : Shp} (h : SHP S) : S.2.1 32 = (2, 0) := h.2.2.1 32 (by decide)
theorem q_32_2 {S : Shp} (h : SHP S) : S.2.2 32 2 = some 33 := h.2.2.2 32 2 (by decide) (by decide) (by decide)
theorem l_33 {S : Shp} (h : SHP S) : 33 < S.1 := by have := h.1; omega
theorem t_33 {S : Shp} (h : SHP S) : S.2.1 33 = (9, 24) := h.2.2.1 33 (by decide)
theorem l_34 {S : Shp} (h : SHP S) : 34 < S.1 := by have := h.1; omega
theorem t_34 {S : Shp} (h : SHP S) : S.2.1 34 = (2, 0) := h.2.2.1 34 (by decide)
theorem q_34_2 {S : Shp} (h : SHP S) : S.2.2 34 2 = some 35 := h.2.2.2 34 2 (by decide) (by decide) (by decide)
theorem l_35 {S : Shp} (h : SHP S) : 35 < S.1 := by have := h.1; omega
theorem t_35 {S : Shp} (h : SHP S) : S.2.1 35 = (9, 24) := h.2.2.1 35 (by decide)
theorem l_36 {S : Shp} (h : SHP S) : 36 < S.1 := by have := h.1; omega
theorem t_36 {S : Shp} (h : SHP S) : S.2.1 36 = (2, 0) := h.2.2.1 36 (by decide)
theorem q_36_2 {S : Shp} (h : SHP S) : S.2.2 36 2 = some 37 := h.2.2.2 36 2 (by decide) (by decide) (by decide)
theorem l_37 {S : Shp} (h : SHP S) : 37 < S.1 := by have := h.1; omega
theorem t_37 {S : Shp} (h : SHP S) : S.2.1 37 = (9, 24) := h.2.2.1 37 (by decide)
theorem l_38 {S : Shp} (h : SHP S) : 38 < S.1 := by have := h.1; omega
theorem t_38 {S : Shp} (h : SHP S) : S.2.1 38 = (2, 0) := h.2.2.1 38 (by decide)
theorem q_38_2 {S : Shp} (h : SHP S) : S.2.2 38 2 = some 39 := h.2.2.2 38 2 (by decide) (by decide) (by decide)
theorem l_39 {S : Shp} (h : SHP S) : 39 < S.1 := by have := h.1; omega
theorem t_39 {S : Shp} (h : SHP S) : S.2.1 39 = (9, 24) := h.2.2.1 39 (by decide)
theorem l_40 {S : Shp} (h : SHP S) : 40 < S.1 := by have := h.1; omega
theorem t_40 {S : Shp} (h : SHP S) : S.2.1 40 = (3, 0) := h.2.2.1 40 (by decide)
theorem q_40_4 {S : Shp} (h : SHP S) : S.2.2 40 4 = some 41 := h.2.2.2 40 4 (by decide) (by decide) (by decide)
theorem l_41 {S : Shp} (h : SHP S) : 41 < S.1 := by have := h.1; omega
theorem t_41 {S : Shp} (h : SHP S) : S.2.1 41 = (2, 0) := h.2.2.1 41 (by decide)
theorem q_41_2 {S : Shp} (h : SHP S) : S.2.2 41 2 = some 42 := h.2.2.2 41 2 (by decide) (by decide) (by decide)
theorem l_42 {S : Shp} (h : SHP S) : 42 < S.1 := by have := h.1; omega
theorem t_42 {S : Shp} (h : SHP S) : S.2.1 42 = (9, 24) := h.2.2.1 42 (by decide)
theorem l_43 {S : Shp} (h : SHP S) : 43 < S.1 := by have := h.1; omega
theorem t_43 {S : Shp} (h : SHP S) : S.2.1 43 = (3, 0) := h.2.2.1 43 (by decide)
theorem q_43_4 {S : Shp} (h : SHP S) : S.2.2 43 4 = some 44 := h.2.2.2 43 4 (by decide) (by decide) (by decide)
theorem l_44 {S : Shp} (h : SHP S) : 44 < S.1 := by have := h.1; omega
theorem t_44 {S : Shp} (h : SHP S) : S.2.1 44 = (2, 0) := h.2.2.1 44 (by decide)
theorem q_44_2 {S : Shp} (h : SHP S) : S.2.2 44 2 = some 45 := h.2.2.2 44 2 (by decide) (by decide) (by decide)
theorem l_45 {S : Shp} (h : SHP S) : 45 < S.1 := by have := h.1; omega
theorem t_45 {S : Shp} (h : SHP S) : S.2.1 45 = (9, 24) := h.2.2.1 45 (by decide)
theorem l_46 {S : Shp} (h : SHP S) : 46 < S.1 := by have := h.1; omega
theorem t_46 {S : Shp} (h : SHP S) : S.2.1 46 = (3, 0) := h.2.2.1 46 (by decide)
theorem q_46_4 {S : Shp} (h : SHP S) : S.2.2 46 4 = some 47 := h.2.2.2 46 4 (by decide) (by decide) (by decide)
theorem l_47 {S : Shp} (h : SHP S) : 47 < S.1 := by have := h.1; omega
theorem t_47 {S : Shp} (h : SHP S) : S.2.1 47 = (2, 0) := h.2.2.1 47 (by decide)
theorem q_47_2 {S : Shp} (h : SHP S) : S.2.2 47 2 = some 48 := h.2.2.2 47 2 (by decide) (by decide) (by decide)
theorem l_48 {S : Shp} (h : SHP S) : 48 < S.1 := by have := h.1; omega
theorem t_48 {S : Shp} (h : SHP S) : S.2.1 48 = (9, 24) := h.2.2.1 48 (by decide)
theorem l_49 {S : Shp} (h : SHP S) : 49 < S.1 := by have := h.1; omega
theorem t_49 {S : Shp} (h : SHP S) : S.2.1 49 = (3, 0) := h.2.2.1 49 (by decide)
theorem q_49_4 {S : Shp} (h : SHP S) : S.2.2 49 4 = some 50 := h.2.2.2 49 4 (by decide) (by decide) (by decide)
theorem l_50 {S : Shp} (h : SHP S) : 50 < S.1 := by have := h.1; omega
theorem t_50 {S : Shp} (h : SHP S) : S.2.1 50 = (2, 0) := h.2.2.1 50 (by decide)
theorem q_50_2 {S : Shp} (h : SHP S) : S.2.2 50 2 = some 51 := h.2.2.2 50 2 (by decide) (by decide) (by decide)
theorem l_51 {S : Shp} (h : SHP S) : 51 < S.1 := by have := h.1; omega
theorem t_51 {S : Shp} (h : SHP S) : S.2.1 51 = (9, 24) := h.2.2.1 51 (by decide)
theorem l_52 {S : Shp} (h : SHP S) : 52 < S.1 := by have := h.1; omega
theorem t_52 {S : Shp} (h : SHP S) : S.2.1 52 = (3, 0) := h.2.2.1 52 (by decide)
theorem q_52_4 {S : Shp} (h : SHP S) : S.2.2 52 4 = some 53 := h.2.2.2 52 4 (by decide) (by decide) (by decide)
theorem l_53 {S : Shp} (h : SHP S) : 53 < S.1 := by have := h.1; omega
theorem t_53 {S : Shp} (h : SHP S) : S.2.1 53 = (2, 0) := h.2.2.1 53 (by decide)
theorem q_53_2 {S : Shp} (h : SHP S) : S.2.2 53 2 = some 54 := h.2.2.2 53 2 (by decide) (by decide) (by decide)
theorem l_54 {S : Shp} (h : SHP S) : 54 < S.1 := by have := h.1; omega
theorem t_54 {S : Shp} (h : SHP S) : S.2.1 54 = (9, 24) := h.2.2.1 54 (by decide)
theorem l_55 {S : Shp} (h : SHP S) : 55 < S.1 := by have := h.1; omega
theorem t_55 {S : Shp} (h : SHP S) : S.2.1 55 = (8, 0) := h.2.2.1 55 (by decide)
theorem q_55_0 {S : Shp} (h : SHP S) : S.2.2 55 0 = some 56 := h.2.2.2 55 0 (by decide) (by decide) (by decide)
theorem q_55_1 {S : Shp} (h : SHP S) : S.2.2 55 1 = some 57 := h.2.2.2 55 1 (by decide) (by decide) (by decide)
theorem q_55_2 {S : Shp} (h : SHP S) : S.2.2 55 2 = some 58 := h.2.2.2 55 2 (by decide) (by decide) (by decide)
theorem q_55_4 {S : Shp} (h : SHP S) : S.2.2 55 4 = some 59 := h.2.2.2 55 4 (by decide) (by decide) (by decide)
theorem q_55_5 {S : Shp} (h : SHP S) : S.2.2 55 5 = some 60 := h.2.2.2 55 5 (by decide) (by decide) (by decide)
theorem q_55_13 {S : Shp} (h : SHP S) : S.2.2 55 13 = some 61 := h.2.2.2 55 13 (by decide) (by decide) (by decide)
theorem q_55_14 {S : Shp} (h : SHP S) : S.2.2 55 14 = some 62 := h.2.2.2 55 14 (by decide) (by decide) (by decide)
theorem q_55_15 {S : Shp} (h : SHP S) : S.2.2 55 15 = some 63 := h.2.2.2 55 15 (by decide) (by decide) (by decide)
theorem q_55_18 {S : Shp} (h : SHP S) : S.2.2 55 18 = some 64 := h.2.2.2 55 18 (by decide) (by decide) (by decide)
theorem q_55_20 {S : Shp} (h : SHP S) : S.2.2 55 20 = some 65 := h.2.2.2 55 20 (by decide) (by decide) (by decide)
theorem q_55_21 {S : Shp} (h : SHP S) : S.2.2 55 21 = some 66 := h.2.2.2 55 21 (by decide) (by decide) (by decide)
theorem q_55_22 {S : Shp} (h : SHP S) : S.2.2 55 22 = some 67 := h.2.2.2 55 22 (by decide) (by decide) (by decide)
theorem q_55_23 {S : Shp} (h : SHP S) : S.2.2 55 23 = some 68 := h.2.2.2 55 23 (by decide) (by decide) (by decide)
theorem q_55_24 {S : Shp} (h : SHP S) : S.2.2 55 24 = some 69 := h.2.2.2 55 24 (by decide) (by decide) (by decide)
theorem q_55_25 {S : Shp} (h : SHP S) : S.2.2 55 25 = some 70 := h.2.2.2 55 25 (by decide) (by decide) (by decide)
theorem q_55_26 {S : Shp} (h : SHP S) : S.2.2 55 26 = some 71 := h.2.2.2 55 26 (by decide) (by decide) (by decide)
theorem q_55_27 {S : Shp} (h : SHP S) : S.2.2 55 27 = some 72 := h.2.2.2 55 27 (by decide) (by decide) (by decide)
theorem q_55_28 {S : Shp} (h : SHP S) : S.2.2 55 28 = some 73 := h.2.2.2 55 28 (by decide) (by decide) (by decide)
theorem q_55_29 {S : Shp} (h : SHP S) : S.2.2 55 29 = some 74 := h.2.2.2 55 29 (by decide) (by decide) (by decide)
theorem q_55_30 {S : Shp} (h : SHP S) : S.2.2 55 30 = some 75 := h.2.2.2 55 30 (by decide) (by decide) (by decide)
theorem q_55_31 {S : Shp} (h : SHP S) : S.2.2 55 31 = some 76 := h.2.2.2 55 31 (by decide) (by decide) (by decide)
theorem l_56 {S : Shp} (h : SHP S) : 56 < S.1 := by have := h.1; omega
theorem t_56 {S : Shp} (h : SHP S) : S.2.1 56 = (9, 1433) := h.2.2.1 56 (by decide)
theorem l_57 {S : Shp} (h : SHP S) : 57 < S.1 := by have := h.1; omega
theorem t_57 {S : Shp} (h : SHP S) : S.2.1 57 = (9, 1433) := h.2.2.1 57 (by decide)
theorem l_58 {S : Shp} (h : SHP S) : 58 < S.1 := by have := h.1; omega
theorem t_58 {S : Shp} (h : SHP S) : S.2.1 58 = (9, 1433) := h.2.2.1 58 (by decide)
theorem l_59 {S : Shp} (h : SHP S) : 59 < S.1 := by have := h.1; omega
theorem t_59 {S : Shp} (h : SHP S) : S.2.1 59 = (9, 61) := h.2.2.1 59 (by decide)
theorem l_60 {S : Shp} (h : SHP S) : 60 < S.1 := by have := h.1; omega
theorem t_60 {S : Shp} (h : SHP S) : S.2.1 60 = (9, 96) := h.2.2.1 60 (by decide)
theorem l_61 {S : Shp} (h : SHP S) : 61 < S.1 := by have := h.1; omega
theorem t_61 {S : Shp} (h : SHP S) : S.2.1 61 = (12, 11) := h.2.2.1 61 (by decide)
theorem l_62 {S : Shp} (h : SHP S) : 62 < S.1 := by have := h.1; omega
theorem t_62 {S : Shp} (h : SHP S) : S.2.1 62 = (9, 4) := h.2.2.1 62 (by decide)
theorem l_63 {S : Shp} (h : SHP S) : 63 < S.1 := by have := h.1; omega
theorem t_63 {S : Shp} (h : SHP S) : S.2.1 63 = (9, 96) := h.2.2.1 63 (by decide)
theorem l_64 {S : Shp} (h : SHP S) : 64 < S.1 := by have := h.1; omega
theorem t_64 {S : Shp} (h : SHP S) : S.2.1 64 = (9, 96) := h.2.2.1 64 (by decide)
theorem l_65 {S : Shp} (h : SHP S) : 65 < S.1 := by have := h.1; omega
theorem t_65 {S : Shp} (h : SHP S) : S.2.1 65 = (11, 10) := h.2.2.1 65 (by decide)
theorem l_66 {S : Shp} (h : SHP S) : 66 < S.1 := by have := h.1; omega
theorem t_66 {S : Shp} (h : SHP S) : S.2.1 66 = (9, 96) := h.2.2.1 66 (by decide)
theorem l_67 {S : Shp} (h : SHP S) : 67 < S.1 := by have := h.1; omega
theorem t_67 {S : Shp} (h : SHP S) : S.2.1 67 = (9, 4) := h.2.2.1 67 (by decide)
theorem l_68 {S : Shp} (h : SHP S) : 68 < S.1 := by have := h.1; omega
theorem t_68 {S : Shp} (h : SHP S) : S.2.1 68 = (9, 4) := h.2.2.1 68 (by decide)
theorem l_69 {S : Shp} (h : SHP S) : 69 < S.1 := by have := h.1; omega
theorem t_69 {S : Shp} (h : SHP S) : S.2.1 69 = (9, 4) := h.2.2.1 69 (by decide)
theorem l_70 {S : Shp} (h : SHP S) : 70 < S.1 := by have := h.1; omega
theorem t_70 {S : Shp} (h : SHP S) : S.2.1 70 = (9, 96) := h.2.2.1 70 (by decide)
theorem l_71 {S : Shp} (h : SHP S) : 71 < S.1 := by have := h.1; omega
theorem t_71 {S : Shp} (h : SHP S) : S.2.1 71 = (9, 5) := h.2.2.1 71 (by decide)
theorem l_72 {S : Shp} (h : SHP S) : 72 < S.1 := by have := h.1; omega
theorem t_72 {S : Shp} (h : SHP S) : S.2.1 72 = (9, 5) := h.2.2.1 72 (by decide)
theorem l_73 {S : Shp} (h : SHP S) : 73 < S.1 := by have := h.1; omega
theorem t_73 {S : Shp} (h : SHP S) : S.2.1 73 = (9, 5) := h.2.2.1 73 (by decide)
theorem l_74 {S : Shp} (h : SHP S) : 74 < S.1 := by have := h.1; omega
theorem t_74 {S : Shp} (h : SHP S) : S.2.1 74 = (9, 120) := h.2.2.1 74 (by decide)
theorem l_75 {S : Shp} (h : SHP S) : 75 < S.1 := by have := h.1; omega
theorem t_75 {S : Shp} (h : SHP S) : S.2.1 75 = (9, 24) := h.2.2.1 75 (by decide)
theorem l_76 {S : Shp} (h : SHP S) : 76 < S.1 := by have := h.1; omega
theorem t_76 {S : Shp} (h : SHP S) : S.2.1 76 = (9, 60) := h.2.2.1 76 (by decide)
theorem so_l0 {S : Shp} {o : Nat} (h : SHP S) (ho : StO o) : o < S.1 := by have := h.1; rcases ho with rfl | rfl | rfl <;> omega
theorem so_t0 {S : Shp} {o : Nat} (h : SHP S) (ho : StO o) : S.2.1 (o) = (4, 0) := by rcases ho with rfl | rfl | rfl <;> exact h.2.2.1 _ (by decide)
theorem so_l1 {S : Shp} {o : Nat} (h : SHP S) (ho : StO o) : o + 1 < S.1 := by have := h.1; rcases ho with rfl | rfl | rfl <;> omega
theorem so_t1 {S : Shp} {o : Nat} (h : SHP S) (ho : StO o) : S.2.1 (o + 1) = (9, 8) := by rcases ho with rfl | rfl | rfl <;> exact h.2.2.1 _ (by decide)
theorem so_l2 {S : Shp} {o : Nat} (h : SHP S) (ho : StO o) : o + 2 < S.1 := by have := h.1; rcases ho with rfl | rfl | rfl <;> omega
theorem so_t2 {S : Shp} {o : Nat} (h : SHP S) (ho : StO o) : S.2.1 (o + 2) = (9, 9) := by rcases ho with rfl | rfl | rfl <;> exact h.2.2.1 _ (by decide)
theorem so_l3 {S : Shp} {o : Nat} (h : SHP S) (ho : StO o) : o + 3 < S.1 := by have := h.1; rcases ho with rfl | rfl | rfl <;> omega
theorem so_t3 {S : Shp} {o : Nat} (h : SHP S) (ho : StO o) : S.2.1 (o + 3) = (9, 9) := by rcases ho with rfl | rfl | rfl <;> exact h.2.2.1 _ (by decide)
theorem so_l4 {S : Shp} {o : Nat} (h : SHP S) (ho : StO o) : o + 4 < S.1 := by have := h.1; rcases ho with rfl | rfl | rfl <;> omega
theorem so_t4 {S : Shp} {o : Nat} (h : SHP S) (ho : StO o) : S.2.1 (o + 4) = (9, 9) := by rcases ho with rfl | rfl | rfl <;> exact h.2.2.1 _ (by decide)
theorem so_l5 {S : Shp} {o : Nat} (h : SHP S) (ho : StO o) : o + 5 < S.1 := by have := h.1; rcases ho with rfl | rfl | rfl <;> omega
theorem so_t5 {S : Shp} {o : Nat} (h : SHP S) (ho : StO o) : S.2.1 (o + 5) = (9, 9) := by rcases ho with rfl | rfl | rfl <;> exact h.2.2.1 _ (by decide)
theorem so_l6 {S : Shp} {o : Nat} (h : SHP S) (ho : StO o) : o + 6 < S.1 := by have := h.1; rcases ho with rfl | rfl | rfl <;> omega
theorem so_t6 {S : Shp} {o : Nat} (h : SHP S) (ho : StO o) : S.2.1 (o + 6) = (9, 9) := by rcases ho with rfl | rfl | rfl <;> exact h.2.2.1 _ (by decide)
theorem so_p0 {S : Shp} {o : Nat} (h : SHP S) (ho : StO o) : S.2.2 o 0 = some (o + 1) := by rcases ho with rfl | rfl | rfl <;> exact h.2.2.2 _ _ (by decide) (by decide) (by decide)
theorem so_p1 {S : Shp} {o : Nat} (h : SHP S) (ho : StO o) : S.2.2 o 1 = some (o + 2) := by rcases ho with rfl | rfl | rfl <;> exact h.2.2.2 _ _ (by decide) (by decide) (by decide)
theorem so_p2 {S : Shp} {o : Nat} (h : SHP S) (ho : StO o) : S.2.2 o 2 = some (o + 3) := by rcases ho with rfl | rfl | rfl <;> exact h.2.2.2 _ _ (by decide) (by decide) (by decide)
theorem so_p3 {S : Shp} {o : Nat} (h : SHP S) (ho : StO o) : S.2.2 o 3 = some (o + 4) := by rcases ho with rfl | rfl | rfl <;> exact h.2.2.2 _ _ (by decide) (by decide) (by decide)
theorem so_p4 {S : Shp} {o : Nat} (h : SHP S) (ho : StO o) : S.2.2 o 4 = some (o + 5) := by rcases ho with rfl | rfl | rfl <;> exact h.2.2.2 _ _ (by decide) (by decide) (by decide)
theorem so_p5 {S : Shp} {o : Nat} (h : SHP S) (ho : StO o) : S.2.2 o 5 = some (o + 6) := by rcases ho with rfl | rfl | rfl <;> exact h.2.2.2 _ _ (by decide) (by decide) (by decide)
abbrev Rm (S : Shp) (J : Mem) (v : Int32) : Option Value → Shp → Mem → Prop := fun r S' I' => r = some (.int v) ∧ S = S' ∧ J = I'
abbrev Rv (S : Shp) (J : Mem) : Option Value → Shp → Mem → Prop := fun r S' I' => r = none ∧ S = S' ∧ J = I' 
