/-! the tables' words, by their places -/
set_option maxRecDepth 100000 in
theorem in_X0 : ∀ w ∈ u_ws RX0 TX0 13, w ∈ gtbl := by
  intro w hw
  have h : u_ws RX0 TX0 13 = [73, 75, 77, 79, 81, 83, 85, 87, 89, 91, 93, 95, 97].filterMap (fun i => tables_1[i]?) := by rfl
  rw [h] at hw
  obtain ⟨i, -, hi⟩ := List.mem_filterMap.mp hw
  have hg : (u_ws RX0 TX0 13).all goodWord = true := by decide +kernel
  rw [h] at hg
  exact in_t i hi (List.all_eq_true.mp hg w hw)
set_option maxRecDepth 100000 in
theorem hc_0 : hc_C 0 RX0 TX0 13 := ⟨rfl, in_X0, tyX0_ok, nmX0, in_t 48 rfl rfl, in_t 3 rfl rfl⟩
set_option maxRecDepth 100000 in
theorem nfl_0 : ∀ f, f < 13 → ft_ 0 f ≠ .float ∧ ft_ 0 f ≠ .double := by decide +kernel
set_option maxRecDepth 100000 in
theorem in_X1 : ∀ w ∈ u_ws RX1 TX1 5, w ∈ gtbl := by
  intro w hw
  have h : u_ws RX1 TX1 5 = [36, 38, 40, 42, 44].filterMap (fun i => tables_1[i]?) := by rfl
  rw [h] at hw
  obtain ⟨i, -, hi⟩ := List.mem_filterMap.mp hw
  have hg : (u_ws RX1 TX1 5).all goodWord = true := by decide +kernel
  rw [h] at hg
  exact in_t i hi (List.all_eq_true.mp hg w hw)
set_option maxRecDepth 100000 in
theorem hc_1 : hc_C 1 RX1 TX1 5 := ⟨rfl, in_X1, tyX1_ok, nmX1, in_t 24 rfl rfl, in_t 2 rfl rfl⟩
set_option maxRecDepth 100000 in
theorem nfl_1 : ∀ f, f < 5 → ft_ 1 f ≠ .float ∧ ft_ 1 f ≠ .double := by decide +kernel
set_option maxRecDepth 100000 in
theorem in_X2 : ∀ w ∈ u_ws RX2 TX2 10, w ∈ gtbl := by
  intro w hw
  have h : u_ws RX2 TX2 10 = [176, 178, 180, 182, 184, 186, 188, 190, 192, 194].filterMap (fun i => tables_1[i]?) := by rfl
  rw [h] at hw
  obtain ⟨i, -, hi⟩ := List.mem_filterMap.mp hw
  have hg : (u_ws RX2 TX2 10).all goodWord = true := by decide +kernel
  rw [h] at hg
  exact in_t i hi (List.all_eq_true.mp hg w hw)
set_option maxRecDepth 100000 in
theorem hc_2 : hc_C 2 RX2 TX2 10 := ⟨rfl, in_X2, tyX2_ok, nmX2, in_t 127 rfl rfl, in_t 5 rfl rfl⟩
set_option maxRecDepth 100000 in
theorem nfl_2 : ∀ f, f < 10 → ft_ 2 f ≠ .float ∧ ft_ 2 f ≠ .double := by decide +kernel
set_option maxRecDepth 100000 in
theorem in_X3 : ∀ w ∈ u_ws RX3 TX3 6, w ∈ gtbl := by
  intro w hw
  have h : u_ws RX3 TX3 6 = [337, 339, 341, 343, 345, 347].filterMap (fun i => tables_1[i]?) := by rfl
  rw [h] at hw
  obtain ⟨i, -, hi⟩ := List.mem_filterMap.mp hw
  have hg : (u_ws RX3 TX3 6).all goodWord = true := by decide +kernel
  rw [h] at hg
  exact in_t i hi (List.all_eq_true.mp hg w hw)
set_option maxRecDepth 100000 in
theorem hc_3 : hc_C 3 RX3 TX3 6 := ⟨rfl, in_X3, tyX3_ok, nmX3, in_t 322 rfl rfl, in_t 8 rfl rfl⟩
set_option maxRecDepth 100000 in
theorem nfl_3 : ∀ f, f < 6 → ft_ 3 f ≠ .float ∧ ft_ 3 f ≠ .double := by decide +kernel
set_option maxRecDepth 100000 in
theorem in_X4 : ∀ w ∈ u_ws RX4 TX4 6, w ∈ gtbl := by
  intro w hw
  have h : u_ws RX4 TX4 6 = [147, 149, 151, 153, 155, 157].filterMap (fun i => tables_1[i]?) := by rfl
  rw [h] at hw
  obtain ⟨i, -, hi⟩ := List.mem_filterMap.mp hw
  have hg : (u_ws RX4 TX4 6).all goodWord = true := by decide +kernel
  rw [h] at hg
  exact in_t i hi (List.all_eq_true.mp hg w hw)
set_option maxRecDepth 100000 in
theorem hc_4 : hc_C 4 RX4 TX4 6 := ⟨rfl, in_X4, tyX4_ok, nmX4, in_t 134 rfl rfl, in_t 6 rfl rfl⟩
set_option maxRecDepth 100000 in
theorem nfl_4 : ∀ f, f < 6 → ft_ 4 f ≠ .float ∧ ft_ 4 f ≠ .double := by decide +kernel
set_option maxRecDepth 100000 in
theorem in_X5 : ∀ w ∈ u_ws RX5 TX5 6, w ∈ gtbl := by
  intro w hw
  have h : u_ws RX5 TX5 6 = [107, 109, 111, 113, 115, 117].filterMap (fun i => tables_1[i]?) := by rfl
  rw [h] at hw
  obtain ⟨i, -, hi⟩ := List.mem_filterMap.mp hw
  have hg : (u_ws RX5 TX5 6).all goodWord = true := by decide +kernel
  rw [h] at hg
  exact in_t i hi (List.all_eq_true.mp hg w hw)
set_option maxRecDepth 100000 in
theorem hc_5 : hc_C 5 RX5 TX5 6 := ⟨rfl, in_X5, tyX5_ok, nmX5, in_t 10 rfl rfl, in_t 1 rfl rfl⟩
set_option maxRecDepth 100000 in
theorem nfl_5 : ∀ f, f < 6 → ft_ 5 f ≠ .float ∧ ft_ 5 f ≠ .double := by decide +kernel
set_option maxRecDepth 100000 in
theorem in_X6 : ∀ w ∈ u_ws RX6 TX6 39, w ∈ gtbl := by
  intro w hw
  have h : u_ws RX6 TX6 39 = [615, 617, 619, 621, 623, 625, 627, 629, 631, 633, 635, 637, 639, 641, 643, 645, 647, 649, 651, 653, 655, 657, 659, 661, 663, 665, 667, 669, 671, 673, 675, 677, 679, 681, 683, 685, 687, 689, 691].filterMap (fun i => tables_1[i]?) := by rfl
  rw [h] at hw
  obtain ⟨i, -, hi⟩ := List.mem_filterMap.mp hw
  have hg : (u_ws RX6 TX6 39).all goodWord = true := by decide +kernel
  rw [h] at hg
  exact in_t i hi (List.all_eq_true.mp hg w hw)
set_option maxRecDepth 100000 in
theorem hc_6 : hc_C 6 RX6 TX6 39 := ⟨rfl, in_X6, tyX6_ok, nmX6, in_t 535 rfl rfl, in_t 4 rfl rfl⟩
set_option maxRecDepth 100000 in
theorem nfl_6 : ∀ f, f < 39 → ft_ 6 f ≠ .float ∧ ft_ 6 f ≠ .double := by decide +kernel
set_option maxRecDepth 100000 in
theorem fl_X1_9 : hf_L RX1 9 1 0 true := ⟨RX1, TX1, 5, hc_1, by decide, in_t 29 rfl rfl, rfl, rfl⟩
set_option maxRecDepth 100000 in
theorem fl_X1_15 : hf_L RX1 15 1 1 true := ⟨RX1, TX1, 5, hc_1, by decide, in_t 30 rfl rfl, rfl, rfl⟩
set_option maxRecDepth 100000 in
theorem fl_X1_18 : hf_L RX1 18 1 2 true := ⟨RX1, TX1, 5, hc_1, by decide, in_t 31 rfl rfl, rfl, rfl⟩
set_option maxRecDepth 100000 in
theorem fl_X1_21 : hf_L RX1 21 1 3 true := ⟨RX1, TX1, 5, hc_1, by decide, in_t 32 rfl rfl, rfl, rfl⟩
set_option maxRecDepth 100000 in
theorem fl_X5_186 : hf_L RX5 186 1 3 true := ⟨RX1, TX1, 5, hc_1, by decide, in_t 33 rfl rfl, rfl, rfl⟩
set_option maxRecDepth 100000 in
theorem fl_X1_24 : hf_L RX1 24 1 4 false := ⟨RX1, TX1, 5, hc_1, by decide, in_t 34 rfl rfl, rfl, rfl⟩
set_option maxRecDepth 100000 in
theorem fl_X5_183 : hf_L RX5 183 1 4 false := ⟨RX1, TX1, 5, hc_1, by decide, in_t 35 rfl rfl, rfl, rfl⟩
set_option maxRecDepth 100000 in
theorem fl_X0_11 : hf_L RX0 11 0 0 true := ⟨RX0, TX0, 13, hc_0, by decide, in_t 54 rfl rfl, rfl, rfl⟩
set_option maxRecDepth 100000 in
theorem fl_X5_101 : hf_L RX5 101 0 0 true := ⟨RX0, TX0, 13, hc_0, by decide, in_t 55 rfl rfl, rfl, rfl⟩
set_option maxRecDepth 100000 in
theorem fl_X0_17 : hf_L RX0 17 0 1 true := ⟨RX0, TX0, 13, hc_0, by decide, in_t 56 rfl rfl, rfl, rfl⟩
set_option maxRecDepth 100000 in
theorem fl_X5_113 : hf_L RX5 113 0 1 true := ⟨RX0, TX0, 13, hc_0, by decide, in_t 57 rfl rfl, rfl, rfl⟩
set_option maxRecDepth 100000 in
theorem fl_X0_21 : hf_L RX0 21 0 2 true := ⟨RX0, TX0, 13, hc_0, by decide, in_t 58 rfl rfl, rfl, rfl⟩
set_option maxRecDepth 100000 in
theorem fl_X5_117 : hf_L RX5 117 0 2 true := ⟨RX0, TX0, 13, hc_0, by decide, in_t 59 rfl rfl, rfl, rfl⟩
set_option maxRecDepth 100000 in
theorem fl_X0_25 : hf_L RX0 25 0 3 true := ⟨RX0, TX0, 13, hc_0, by decide, in_t 60 rfl rfl, rfl, rfl⟩
set_option maxRecDepth 100000 in
theorem fl_X0_28 : hf_L RX0 28 0 4 true := ⟨RX0, TX0, 13, hc_0, by decide, in_t 61 rfl rfl, rfl, rfl⟩
set_option maxRecDepth 100000 in
theorem fl_X0_31 : hf_L RX0 31 0 5 true := ⟨RX0, TX0, 13, hc_0, by decide, in_t 62 rfl rfl, rfl, rfl⟩
set_option maxRecDepth 100000 in
theorem fl_X0_42 : hf_L RX0 42 0 6 false := ⟨RX0, TX0, 13, hc_0, by decide, in_t 63 rfl rfl, rfl, rfl⟩
set_option maxRecDepth 100000 in
theorem fl_X5_98 : hf_L RX5 98 0 6 false := ⟨RX0, TX0, 13, hc_0, by decide, in_t 64 rfl rfl, rfl, rfl⟩
set_option maxRecDepth 100000 in
theorem fl_X0_48 : hf_L RX0 48 0 7 false := ⟨RX0, TX0, 13, hc_0, by decide, in_t 65 rfl rfl, rfl, rfl⟩
set_option maxRecDepth 100000 in
theorem fl_X5_139 : hf_L RX5 139 0 7 false := ⟨RX0, TX0, 13, hc_0, by decide, in_t 66 rfl rfl, rfl, rfl⟩
set_option maxRecDepth 100000 in
theorem fl_X0_70 : hf_L RX0 70 0 8 false := ⟨RX0, TX0, 13, hc_0, by decide, in_t 67 rfl rfl, rfl, rfl⟩
set_option maxRecDepth 100000 in
theorem fl_X5_146 : hf_L RX5 146 0 8 false := ⟨RX0, TX0, 13, hc_0, by decide, in_t 68 rfl rfl, rfl, rfl⟩
set_option maxRecDepth 100000 in
theorem fl_X5_149 : hf_L RX5 149 0 9 false := ⟨RX0, TX0, 13, hc_0, by decide, in_t 69 rfl rfl, rfl, rfl⟩
set_option maxRecDepth 100000 in
theorem fl_X0_34 : hf_L RX0 34 0 10 false := ⟨RX0, TX0, 13, hc_0, by decide, in_t 70 rfl rfl, rfl, rfl⟩
set_option maxRecDepth 100000 in
theorem fl_X0_60 : hf_L RX0 60 0 11 false := ⟨RX0, TX0, 13, hc_0, by decide, in_t 71 rfl rfl, rfl, rfl⟩
set_option maxRecDepth 100000 in
theorem fl_X0_38 : hf_L RX0 38 0 12 false := ⟨RX0, TX0, 13, hc_0, by decide, in_t 72 rfl rfl, rfl, rfl⟩
set_option maxRecDepth 100000 in
theorem fl_X5_11 : hf_L RX5 11 5 0 true := ⟨RX5, TX5, 6, hc_5, by decide, in_t 101 rfl rfl, rfl, rfl⟩
set_option maxRecDepth 100000 in
theorem fl_X5_17 : hf_L RX5 17 5 1 true := ⟨RX5, TX5, 6, hc_5, by decide, in_t 102 rfl rfl, rfl, rfl⟩
set_option maxRecDepth 100000 in
theorem fl_X5_23 : hf_L RX5 23 5 2 true := ⟨RX5, TX5, 6, hc_5, by decide, in_t 103 rfl rfl, rfl, rfl⟩
set_option maxRecDepth 100000 in
theorem fl_X5_30 : hf_L RX5 30 5 3 true := ⟨RX5, TX5, 6, hc_5, by decide, in_t 104 rfl rfl, rfl, rfl⟩
set_option maxRecDepth 100000 in
theorem fl_X5_39 : hf_L RX5 39 5 4 false := ⟨RX5, TX5, 6, hc_5, by decide, in_t 105 rfl rfl, rfl, rfl⟩
set_option maxRecDepth 100000 in
theorem fl_X5_124 : hf_L RX5 124 5 5 false := ⟨RX5, TX5, 6, hc_5, by decide, in_t 106 rfl rfl, rfl, rfl⟩
set_option maxRecDepth 100000 in
theorem fl_X4_9 : hf_L RX4 9 4 0 false := ⟨RX4, TX4, 6, hc_4, by decide, in_t 139 rfl rfl, rfl, rfl⟩
set_option maxRecDepth 100000 in
theorem fl_X2_45 : hf_L RX2 45 4 0 false := ⟨RX4, TX4, 6, hc_4, by decide, in_t 140 rfl rfl, rfl, rfl⟩
set_option maxRecDepth 100000 in
theorem fl_X5_171 : hf_L RX5 171 4 0 false := ⟨RX4, TX4, 6, hc_4, by decide, in_t 141 rfl rfl, rfl, rfl⟩
set_option maxRecDepth 100000 in
theorem fl_X4_22 : hf_L RX4 22 4 1 false := ⟨RX4, TX4, 6, hc_4, by decide, in_t 142 rfl rfl, rfl, rfl⟩
set_option maxRecDepth 100000 in
theorem fl_X4_15 : hf_L RX4 15 4 2 false := ⟨RX4, TX4, 6, hc_4, by decide, in_t 143 rfl rfl, rfl, rfl⟩
set_option maxRecDepth 100000 in
theorem fl_X4_46 : hf_L RX4 46 4 3 false := ⟨RX4, TX4, 6, hc_4, by decide, in_t 144 rfl rfl, rfl, rfl⟩
set_option maxRecDepth 100000 in
theorem fl_X4_37 : hf_L RX4 37 4 4 false := ⟨RX4, TX4, 6, hc_4, by decide, in_t 145 rfl rfl, rfl, rfl⟩
set_option maxRecDepth 100000 in
theorem fl_X4_53 : hf_L RX4 53 4 5 false := ⟨RX4, TX4, 6, hc_4, by decide, in_t 146 rfl rfl, rfl, rfl⟩
set_option maxRecDepth 100000 in
theorem fl_X2_9 : hf_L RX2 9 2 0 true := ⟨RX2, TX2, 10, hc_2, by decide, in_t 160 rfl rfl, rfl, rfl⟩
set_option maxRecDepth 100000 in
theorem fl_X5_110 : hf_L RX5 110 2 0 true := ⟨RX2, TX2, 10, hc_2, by decide, in_t 161 rfl rfl, rfl, rfl⟩
set_option maxRecDepth 100000 in
theorem fl_X2_15 : hf_L RX2 15 2 1 true := ⟨RX2, TX2, 10, hc_2, by decide, in_t 162 rfl rfl, rfl, rfl⟩
set_option maxRecDepth 100000 in
theorem fl_X0_45 : hf_L RX0 45 2 1 true := ⟨RX2, TX2, 10, hc_2, by decide, in_t 163 rfl rfl, rfl, rfl⟩
set_option maxRecDepth 100000 in
theorem fl_X5_107 : hf_L RX5 107 2 1 true := ⟨RX2, TX2, 10, hc_2, by decide, in_t 164 rfl rfl, rfl, rfl⟩
set_option maxRecDepth 100000 in
theorem fl_X2_32 : hf_L RX2 32 2 2 true := ⟨RX2, TX2, 10, hc_2, by decide, in_t 165 rfl rfl, rfl, rfl⟩
set_option maxRecDepth 100000 in
theorem fl_X5_62 : hf_L RX5 62 2 2 true := ⟨RX2, TX2, 10, hc_2, by decide, in_t 166 rfl rfl, rfl, rfl⟩
set_option maxRecDepth 100000 in
theorem fl_X2_18 : hf_L RX2 18 2 3 true := ⟨RX2, TX2, 10, hc_2, by decide, in_t 167 rfl rfl, rfl, rfl⟩
set_option maxRecDepth 100000 in
theorem fl_X2_21 : hf_L RX2 21 2 4 true := ⟨RX2, TX2, 10, hc_2, by decide, in_t 168 rfl rfl, rfl, rfl⟩
set_option maxRecDepth 100000 in
theorem fl_X2_24 : hf_L RX2 24 2 5 true := ⟨RX2, TX2, 10, hc_2, by decide, in_t 169 rfl rfl, rfl, rfl⟩
set_option maxRecDepth 100000 in
theorem fl_X2_27 : hf_L RX2 27 2 6 true := ⟨RX2, TX2, 10, hc_2, by decide, in_t 170 rfl rfl, rfl, rfl⟩
set_option maxRecDepth 100000 in
theorem fl_X2_48 : hf_L RX2 48 2 7 false := ⟨RX2, TX2, 10, hc_2, by decide, in_t 171 rfl rfl, rfl, rfl⟩
set_option maxRecDepth 100000 in
theorem fl_X5_75 : hf_L RX5 75 2 7 false := ⟨RX2, TX2, 10, hc_2, by decide, in_t 172 rfl rfl, rfl, rfl⟩
set_option maxRecDepth 100000 in
theorem fl_X5_50 : hf_L RX5 50 2 8 false := ⟨RX2, TX2, 10, hc_2, by decide, in_t 173 rfl rfl, rfl, rfl⟩
set_option maxRecDepth 100000 in
theorem fl_X0_51 : hf_L RX0 51 2 9 false := ⟨RX2, TX2, 10, hc_2, by decide, in_t 174 rfl rfl, rfl, rfl⟩
set_option maxRecDepth 100000 in
theorem fl_X5_158 : hf_L RX5 158 2 9 false := ⟨RX2, TX2, 10, hc_2, by decide, in_t 175 rfl rfl, rfl, rfl⟩
set_option maxRecDepth 100000 in
theorem fl_X3_9 : hf_L RX3 9 3 0 true := ⟨RX3, TX3, 6, hc_3, by decide, in_t 327 rfl rfl, rfl, rfl⟩
set_option maxRecDepth 100000 in
theorem fl_X5_205 : hf_L RX5 205 3 0 true := ⟨RX3, TX3, 6, hc_3, by decide, in_t 328 rfl rfl, rfl, rfl⟩
set_option maxRecDepth 100000 in
theorem fl_X3_33 : hf_L RX3 33 3 1 false := ⟨RX3, TX3, 6, hc_3, by decide, in_t 329 rfl rfl, rfl, rfl⟩
set_option maxRecDepth 100000 in
theorem fl_X5_162 : hf_L RX5 162 3 1 false := ⟨RX3, TX3, 6, hc_3, by decide, in_t 330 rfl rfl, rfl, rfl⟩
set_option maxRecDepth 100000 in
theorem fl_X3_22 : hf_L RX3 22 3 2 false := ⟨RX3, TX3, 6, hc_3, by decide, in_t 331 rfl rfl, rfl, rfl⟩
set_option maxRecDepth 100000 in
theorem fl_X0_106 : hf_L RX0 106 3 2 false := ⟨RX3, TX3, 6, hc_3, by decide, in_t 332 rfl rfl, rfl, rfl⟩
set_option maxRecDepth 100000 in
theorem fl_X3_36 : hf_L RX3 36 3 3 false := ⟨RX3, TX3, 6, hc_3, by decide, in_t 333 rfl rfl, rfl, rfl⟩
set_option maxRecDepth 100000 in
theorem fl_X0_63 : hf_L RX0 63 3 3 false := ⟨RX3, TX3, 6, hc_3, by decide, in_t 334 rfl rfl, rfl, rfl⟩
set_option maxRecDepth 100000 in
theorem fl_X3_15 : hf_L RX3 15 3 4 false := ⟨RX3, TX3, 6, hc_3, by decide, in_t 335 rfl rfl, rfl, rfl⟩
set_option maxRecDepth 100000 in
theorem fl_X3_19 : hf_L RX3 19 3 5 false := ⟨RX3, TX3, 6, hc_3, by decide, in_t 336 rfl rfl, rfl, rfl⟩
set_option maxRecDepth 100000 in
theorem fl_X6_7 : hf_L RX6 7 6 0 false := ⟨RX6, TX6, 39, hc_6, by decide, in_t 576 rfl rfl, rfl, rfl⟩
set_option maxRecDepth 100000 in
theorem fl_X6_11 : hf_L RX6 11 6 1 true := ⟨RX6, TX6, 39, hc_6, by decide, in_t 577 rfl rfl, rfl, rfl⟩
set_option maxRecDepth 100000 in
theorem fl_X6_15 : hf_L RX6 15 6 2 true := ⟨RX6, TX6, 39, hc_6, by decide, in_t 578 rfl rfl, rfl, rfl⟩
set_option maxRecDepth 100000 in
theorem fl_X6_18 : hf_L RX6 18 6 3 true := ⟨RX6, TX6, 39, hc_6, by decide, in_t 579 rfl rfl, rfl, rfl⟩
set_option maxRecDepth 100000 in
theorem fl_X6_21 : hf_L RX6 21 6 4 true := ⟨RX6, TX6, 39, hc_6, by decide, in_t 580 rfl rfl, rfl, rfl⟩
set_option maxRecDepth 100000 in
theorem fl_X6_24 : hf_L RX6 24 6 5 true := ⟨RX6, TX6, 39, hc_6, by decide, in_t 581 rfl rfl, rfl, rfl⟩
set_option maxRecDepth 100000 in
theorem fl_X6_27 : hf_L RX6 27 6 6 true := ⟨RX6, TX6, 39, hc_6, by decide, in_t 582 rfl rfl, rfl, rfl⟩
set_option maxRecDepth 100000 in
theorem fl_X6_30 : hf_L RX6 30 6 7 true := ⟨RX6, TX6, 39, hc_6, by decide, in_t 583 rfl rfl, rfl, rfl⟩
set_option maxRecDepth 100000 in
theorem fl_X6_34 : hf_L RX6 34 6 8 true := ⟨RX6, TX6, 39, hc_6, by decide, in_t 584 rfl rfl, rfl, rfl⟩
set_option maxRecDepth 100000 in
theorem fl_X6_37 : hf_L RX6 37 6 9 true := ⟨RX6, TX6, 39, hc_6, by decide, in_t 585 rfl rfl, rfl, rfl⟩
set_option maxRecDepth 100000 in
theorem fl_X6_40 : hf_L RX6 40 6 10 true := ⟨RX6, TX6, 39, hc_6, by decide, in_t 586 rfl rfl, rfl, rfl⟩
set_option maxRecDepth 100000 in
theorem fl_X6_46 : hf_L RX6 46 6 11 true := ⟨RX6, TX6, 39, hc_6, by decide, in_t 587 rfl rfl, rfl, rfl⟩
set_option maxRecDepth 100000 in
theorem fl_X6_43 : hf_L RX6 43 6 12 true := ⟨RX6, TX6, 39, hc_6, by decide, in_t 588 rfl rfl, rfl, rfl⟩
set_option maxRecDepth 100000 in
theorem fl_X6_49 : hf_L RX6 49 6 13 true := ⟨RX6, TX6, 39, hc_6, by decide, in_t 589 rfl rfl, rfl, rfl⟩
set_option maxRecDepth 100000 in
theorem fl_X6_83 : hf_L RX6 83 6 14 true := ⟨RX6, TX6, 39, hc_6, by decide, in_t 590 rfl rfl, rfl, rfl⟩
set_option maxRecDepth 100000 in
theorem fl_X6_86 : hf_L RX6 86 6 15 true := ⟨RX6, TX6, 39, hc_6, by decide, in_t 591 rfl rfl, rfl, rfl⟩
set_option maxRecDepth 100000 in
theorem fl_X6_89 : hf_L RX6 89 6 16 true := ⟨RX6, TX6, 39, hc_6, by decide, in_t 592 rfl rfl, rfl, rfl⟩
set_option maxRecDepth 100000 in
theorem fl_X6_92 : hf_L RX6 92 6 17 true := ⟨RX6, TX6, 39, hc_6, by decide, in_t 593 rfl rfl, rfl, rfl⟩
set_option maxRecDepth 100000 in
theorem fl_X6_95 : hf_L RX6 95 6 18 true := ⟨RX6, TX6, 39, hc_6, by decide, in_t 594 rfl rfl, rfl, rfl⟩
set_option maxRecDepth 100000 in
theorem fl_X6_98 : hf_L RX6 98 6 19 true := ⟨RX6, TX6, 39, hc_6, by decide, in_t 595 rfl rfl, rfl, rfl⟩
set_option maxRecDepth 100000 in
theorem fl_X6_101 : hf_L RX6 101 6 20 true := ⟨RX6, TX6, 39, hc_6, by decide, in_t 596 rfl rfl, rfl, rfl⟩
set_option maxRecDepth 100000 in
theorem fl_X6_104 : hf_L RX6 104 6 21 true := ⟨RX6, TX6, 39, hc_6, by decide, in_t 597 rfl rfl, rfl, rfl⟩
set_option maxRecDepth 100000 in
theorem fl_X6_108 : hf_L RX6 108 6 22 true := ⟨RX6, TX6, 39, hc_6, by decide, in_t 598 rfl rfl, rfl, rfl⟩
set_option maxRecDepth 100000 in
theorem fl_X6_111 : hf_L RX6 111 6 23 true := ⟨RX6, TX6, 39, hc_6, by decide, in_t 599 rfl rfl, rfl, rfl⟩
set_option maxRecDepth 100000 in
theorem fl_X6_114 : hf_L RX6 114 6 24 true := ⟨RX6, TX6, 39, hc_6, by decide, in_t 600 rfl rfl, rfl, rfl⟩
set_option maxRecDepth 100000 in
theorem fl_X6_117 : hf_L RX6 117 6 25 true := ⟨RX6, TX6, 39, hc_6, by decide, in_t 601 rfl rfl, rfl, rfl⟩
set_option maxRecDepth 100000 in
theorem fl_X6_120 : hf_L RX6 120 6 26 true := ⟨RX6, TX6, 39, hc_6, by decide, in_t 602 rfl rfl, rfl, rfl⟩
set_option maxRecDepth 100000 in
theorem fl_X6_123 : hf_L RX6 123 6 27 true := ⟨RX6, TX6, 39, hc_6, by decide, in_t 603 rfl rfl, rfl, rfl⟩
set_option maxRecDepth 100000 in
theorem fl_X6_165 : hf_L RX6 165 6 28 false := ⟨RX6, TX6, 39, hc_6, by decide, in_t 604 rfl rfl, rfl, rfl⟩
set_option maxRecDepth 100000 in
theorem fl_X6_126 : hf_L RX6 126 6 29 true := ⟨RX6, TX6, 39, hc_6, by decide, in_t 605 rfl rfl, rfl, rfl⟩
set_option maxRecDepth 100000 in
theorem fl_X6_129 : hf_L RX6 129 6 30 true := ⟨RX6, TX6, 39, hc_6, by decide, in_t 606 rfl rfl, rfl, rfl⟩
set_option maxRecDepth 100000 in
theorem fl_X6_132 : hf_L RX6 132 6 31 true := ⟨RX6, TX6, 39, hc_6, by decide, in_t 607 rfl rfl, rfl, rfl⟩
set_option maxRecDepth 100000 in
theorem fl_X6_135 : hf_L RX6 135 6 32 true := ⟨RX6, TX6, 39, hc_6, by decide, in_t 608 rfl rfl, rfl, rfl⟩
set_option maxRecDepth 100000 in
theorem fl_X6_138 : hf_L RX6 138 6 33 true := ⟨RX6, TX6, 39, hc_6, by decide, in_t 609 rfl rfl, rfl, rfl⟩
set_option maxRecDepth 100000 in
theorem fl_X6_141 : hf_L RX6 141 6 34 true := ⟨RX6, TX6, 39, hc_6, by decide, in_t 610 rfl rfl, rfl, rfl⟩
set_option maxRecDepth 100000 in
theorem fl_X6_183 : hf_L RX6 183 6 35 false := ⟨RX6, TX6, 39, hc_6, by decide, in_t 611 rfl rfl, rfl, rfl⟩
set_option maxRecDepth 100000 in
theorem fl_X6_144 : hf_L RX6 144 6 36 true := ⟨RX6, TX6, 39, hc_6, by decide, in_t 612 rfl rfl, rfl, rfl⟩
set_option maxRecDepth 100000 in
theorem fl_X6_147 : hf_L RX6 147 6 37 true := ⟨RX6, TX6, 39, hc_6, by decide, in_t 613 rfl rfl, rfl, rfl⟩
set_option maxRecDepth 100000 in
theorem fl_X6_150 : hf_L RX6 150 6 38 true := ⟨RX6, TX6, 39, hc_6, by decide, in_t 614 rfl rfl, rfl, rfl⟩
set_option maxRecDepth 100000 in
theorem ck_L_7 : Cond.classLink RL 7 RX5 ∈ gtbl := in_t 9 rfl rfl
set_option maxRecDepth 100000 in
theorem mk_L_9 : Cond.methodLink RL 9 yX5_init ∈ gtbl := in_t 11 rfl rfl
set_option maxRecDepth 100000 in
theorem mk_X5_1 : Cond.methodLink RX5 1 objectInit ∈ gtbl := in_t 14 rfl rfl
set_option maxRecDepth 100000 in
theorem ck_X5_9 : Cond.classLink RX5 9 RX2 ∈ gtbl := in_t 17 rfl rfl
set_option maxRecDepth 100000 in
theorem ck_X5_15 : Cond.classLink RX5 15 RX0 ∈ gtbl := in_t 19 rfl rfl
set_option maxRecDepth 100000 in
theorem ck_X5_21 : Cond.classLink RX5 21 RX3 ∈ gtbl := in_t 21 rfl rfl
set_option maxRecDepth 100000 in
theorem ck_X5_27 : Cond.classLink RX5 27 RX1 ∈ gtbl := in_t 23 rfl rfl
set_option maxRecDepth 100000 in
theorem mk_X1_3 : Cond.methodLink RX1 3 objectInit ∈ gtbl := in_t 28 rfl rfl
set_option maxRecDepth 100000 in
theorem ac_int : Cond.arrayClass .int ∈ gtbl := in_t 47 rfl rfl
set_option maxRecDepth 100000 in
theorem mk_X0_3 : Cond.methodLink RX0 3 objectInit ∈ gtbl := in_t 52 rfl rfl
set_option maxRecDepth 100000 in
theorem ck_X0_9 : Cond.classLink RX0 9 RX2 ∈ gtbl := in_t 53 rfl rfl
set_option maxRecDepth 100000 in
theorem ac_boolean : Cond.arrayClass .boolean ∈ gtbl := in_t 100 rfl rfl
set_option maxRecDepth 100000 in
theorem mk_L_13 : Cond.methodLink RL 13 yX5_part ∈ gtbl := in_t 120 rfl rfl
set_option maxRecDepth 100000 in
theorem mk_X5_35 : Cond.methodLink RX5 35 yX5_within ∈ gtbl := in_t 124 rfl rfl
set_option maxRecDepth 100000 in
theorem mk_X5_43 : Cond.methodLink RX5 43 yX2_init ∈ gtbl := in_t 128 rfl rfl
set_option maxRecDepth 100000 in
theorem mk_X2_3 : Cond.methodLink RX2 3 objectInit ∈ gtbl := in_t 131 rfl rfl
set_option maxRecDepth 100000 in
theorem ck_X2_30 : Cond.classLink RX2 30 RX4 ∈ gtbl := in_t 132 rfl rfl
set_option maxRecDepth 100000 in
theorem mk_X4_3 : Cond.methodLink RX4 3 objectInit ∈ gtbl := in_t 138 rfl rfl
set_option maxRecDepth 100000 in
theorem mk_L_18 : Cond.methodLink RL 18 yX5_step ∈ gtbl := in_t 197 rfl rfl
set_option maxRecDepth 100000 in
theorem mk_X5_46 : Cond.methodLink RX5 46 yX5_partAt ∈ gtbl := in_t 201 rfl rfl
set_option maxRecDepth 100000 in
theorem mk_X5_54 : Cond.methodLink RX5 54 yX2_stepBeside ∈ gtbl := in_t 205 rfl rfl
set_option maxRecDepth 100000 in
theorem mk_X2_37 : Cond.methodLink RX2 37 yX2_moveWarmth ∈ gtbl := in_t 209 rfl rfl
set_option maxRecDepth 100000 in
theorem mk_X2_52 : Cond.methodLink RX2 52 yX2_flowFrom ∈ gtbl := in_t 213 rfl rfl
set_option maxRecDepth 100000 in
theorem mk_X2_41 : Cond.methodLink RX2 41 yX4_change ∈ gtbl := in_t 217 rfl rfl
set_option maxRecDepth 100000 in
theorem mk_X4_18 : Cond.methodLink RX4 18 yX4_becomeHot ∈ gtbl := in_t 221 rfl rfl
set_option maxRecDepth 100000 in
theorem mk_X4_25 : Cond.methodLink RX4 25 Lib.Math.min.name ∈ gtbl := in_t 225 rfl rfl
set_option maxRecDepth 100000 in
theorem mk_X4_31 : Cond.methodLink RX4 31 yX4_becomeLamellar ∈ gtbl := in_t 228 rfl rfl
set_option maxRecDepth 100000 in
theorem mk_X4_34 : Cond.methodLink RX4 34 yX4_becomeTough ∈ gtbl := in_t 232 rfl rfl
set_option maxRecDepth 100000 in
theorem mk_X4_40 : Cond.methodLink RX4 40 yX4_becomeHard ∈ gtbl := in_t 236 rfl rfl
set_option maxRecDepth 100000 in
theorem mk_X4_43 : Cond.methodLink RX4 43 yX4_draw ∈ gtbl := in_t 240 rfl rfl
set_option maxRecDepth 100000 in
theorem mk_X5_58 : Cond.methodLink RX5 58 yX2_innermostWarmth ∈ gtbl := in_t 245 rfl rfl
set_option maxRecDepth 100000 in
theorem mk_L_23 : Cond.methodLink RL 23 yX5_shell ∈ gtbl := in_t 249 rfl rfl
set_option maxRecDepth 100000 in
theorem kc_X5_66 : Cond.constant RX5 66 (-100000) ∈ gtbl := in_t 253 rfl rfl
set_option maxRecDepth 100000 in
theorem mk_X5_67 : Cond.methodLink RX5 67 yX4_tell ∈ gtbl := in_t 254 rfl rfl
set_option maxRecDepth 100000 in
theorem mk_X4_56 : Cond.methodLink RX4 56 yX4_hardness ∈ gtbl := in_t 258 rfl rfl
set_option maxRecDepth 100000 in
theorem mk_L_27 : Cond.methodLink RL 27 yX5_taken ∈ gtbl := in_t 262 rfl rfl
set_option maxRecDepth 100000 in
theorem kc_X5_73 : Cond.constantLong RX5 73 (-9999999999) ∈ gtbl := in_t 266 rfl rfl
set_option maxRecDepth 100000 in
theorem mk_L_32 : Cond.methodLink RL 32 yX5_kept ∈ gtbl := in_t 267 rfl rfl
set_option maxRecDepth 100000 in
theorem mk_X5_79 : Cond.methodLink RX5 79 yX2_warmthAstray ∈ gtbl := in_t 271 rfl rfl
set_option maxRecDepth 100000 in
theorem mk_L_36 : Cond.methodLink RL 36 yX5_line ∈ gtbl := in_t 275 rfl rfl
set_option maxRecDepth 100000 in
theorem mk_X5_83 : Cond.methodLink RX5 83 yX5_furnaceAt ∈ gtbl := in_t 279 rfl rfl
set_option maxRecDepth 100000 in
theorem mk_X5_87 : Cond.methodLink RX5 87 yX5_lineIsAsTold ∈ gtbl := in_t 283 rfl rfl
set_option maxRecDepth 100000 in
theorem mk_X5_90 : Cond.methodLink RX5 90 yX0_isRunning ∈ gtbl := in_t 286 rfl rfl
set_option maxRecDepth 100000 in
theorem mk_X5_94 : Cond.methodLink RX5 94 yX0_addLine ∈ gtbl := in_t 290 rfl rfl
set_option maxRecDepth 100000 in
theorem mk_L_41 : Cond.methodLink RL 41 yX5_clear ∈ gtbl := in_t 294 rfl rfl
set_option maxRecDepth 100000 in
theorem mk_L_46 : Cond.methodLink RL 46 yX5_load ∈ gtbl := in_t 298 rfl rfl
set_option maxRecDepth 100000 in
theorem mk_X5_104 : Cond.methodLink RX5 104 yX0_massInside ∈ gtbl := in_t 302 rfl rfl
set_option maxRecDepth 100000 in
theorem mk_L_50 : Cond.methodLink RL 50 yX5_unload ∈ gtbl := in_t 306 rfl rfl
set_option maxRecDepth 100000 in
theorem mk_L_55 : Cond.methodLink RL 55 yX5_probe ∈ gtbl := in_t 310 rfl rfl
set_option maxRecDepth 100000 in
theorem mk_L_60 : Cond.methodLink RL 60 yX5_run ∈ gtbl := in_t 314 rfl rfl
set_option maxRecDepth 100000 in
theorem mk_X5_121 : Cond.methodLink RX5 121 yX0_partsInside ∈ gtbl := in_t 318 rfl rfl
set_option maxRecDepth 100000 in
theorem mk_X5_127 : Cond.methodLink RX5 127 yX3_init ∈ gtbl := in_t 323 rfl rfl
set_option maxRecDepth 100000 in
theorem mk_X3_3 : Cond.methodLink RX3 3 objectInit ∈ gtbl := in_t 326 rfl rfl
set_option maxRecDepth 100000 in
theorem mk_X5_129 : Cond.methodLink RX5 129 yX0_begin ∈ gtbl := in_t 350 rfl rfl
set_option maxRecDepth 100000 in
theorem mk_L_64 : Cond.methodLink RL 64 yX5_tick ∈ gtbl := in_t 354 rfl rfl
set_option maxRecDepth 100000 in
theorem mk_X5_133 : Cond.methodLink RX5 133 yX0_doTick ∈ gtbl := in_t 358 rfl rfl
set_option maxRecDepth 100000 in
theorem mk_X0_66 : Cond.methodLink RX0 66 yX0_gasByLine ∈ gtbl := in_t 362 rfl rfl
set_option maxRecDepth 100000 in
theorem mk_X0_84 : Cond.methodLink RX0 84 yX0_gasNearer ∈ gtbl := in_t 366 rfl rfl
set_option maxRecDepth 100000 in
theorem mk_X0_88 : Cond.methodLink RX0 88 Lib.Math.min.name ∈ gtbl := in_t 370 rfl rfl
set_option maxRecDepth 100000 in
theorem mk_X0_93 : Cond.methodLink RX0 93 Lib.Math.max.name ∈ gtbl := in_t 371 rfl rfl
set_option maxRecDepth 100000 in
theorem mk_X0_73 : Cond.methodLink RX0 73 yX2_stepBeside ∈ gtbl := in_t 374 rfl rfl
set_option maxRecDepth 100000 in
theorem mk_X0_77 : Cond.methodLink RX0 77 yX0_lineIsOver ∈ gtbl := in_t 375 rfl rfl
set_option maxRecDepth 100000 in
theorem mk_X0_96 : Cond.methodLink RX0 96 yX0_countSoak ∈ gtbl := in_t 379 rfl rfl
set_option maxRecDepth 100000 in
theorem mk_X0_100 : Cond.methodLink RX0 100 yX2_innermostWarmth ∈ gtbl := in_t 383 rfl rfl
set_option maxRecDepth 100000 in
theorem mk_X0_103 : Cond.methodLink RX0 103 yX0_partsInside ∈ gtbl := in_t 384 rfl rfl
set_option maxRecDepth 100000 in
theorem mk_X0_81 : Cond.methodLink RX0 81 yX0_goToNextLine ∈ gtbl := in_t 385 rfl rfl
set_option maxRecDepth 100000 in
theorem mk_X0_110 : Cond.methodLink RX0 110 yX0_end ∈ gtbl := in_t 389 rfl rfl
set_option maxRecDepth 100000 in
theorem mk_X0_54 : Cond.methodLink RX0 54 yX3_end ∈ gtbl := in_t 393 rfl rfl
set_option maxRecDepth 100000 in
theorem mk_X5_136 : Cond.methodLink RX5 136 yX5_furnacesRunning ∈ gtbl := in_t 397 rfl rfl
set_option maxRecDepth 100000 in
theorem mk_L_68 : Cond.methodLink RL 68 yX5_stop ∈ gtbl := in_t 401 rfl rfl
set_option maxRecDepth 100000 in
theorem mk_X5_142 : Cond.methodLink RX5 142 yX0_end ∈ gtbl := in_t 405 rfl rfl
set_option maxRecDepth 100000 in
theorem mk_L_72 : Cond.methodLink RL 72 yX5_survey ∈ gtbl := in_t 406 rfl rfl
set_option maxRecDepth 100000 in
theorem mk_X5_152 : Cond.methodLink RX5 152 yX5_doubtRuns ∈ gtbl := in_t 410 rfl rfl
set_option maxRecDepth 100000 in
theorem mk_L_76 : Cond.methodLink RL 76 yX5_about ∈ gtbl := in_t 414 rfl rfl
set_option maxRecDepth 100000 in
theorem mk_X5_156 : Cond.methodLink RX5 156 yX0_tell ∈ gtbl := in_t 418 rfl rfl
set_option maxRecDepth 100000 in
theorem mk_X0_111 : Cond.methodLink RX0 111 yX0_isRunning ∈ gtbl := in_t 422 rfl rfl
set_option maxRecDepth 100000 in
theorem mk_X0_119 : Cond.methodLink RX0 119 yX0_massInside ∈ gtbl := in_t 426 rfl rfl
set_option maxRecDepth 100000 in
theorem mk_L_80 : Cond.methodLink RL 80 yX5_runAt ∈ gtbl := in_t 427 rfl rfl
set_option maxRecDepth 100000 in
theorem mk_X5_157 : Cond.methodLink RX5 157 yX3_tell ∈ gtbl := in_t 431 rfl rfl
set_option maxRecDepth 100000 in
theorem mk_X3_29 : Cond.methodLink RX3 29 yX3_isWell ∈ gtbl := in_t 436 rfl rfl
set_option maxRecDepth 100000 in
theorem mk_L_84 : Cond.methodLink RL 84 yX5_paper ∈ gtbl := in_t 440 rfl rfl
set_option maxRecDepth 100000 in
theorem mk_X5_165 : Cond.methodLink RX5 165 yX3_isWell ∈ gtbl := in_t 444 rfl rfl
set_option maxRecDepth 100000 in
theorem mk_X5_168 : Cond.methodLink RX5 168 yX4_hardness ∈ gtbl := in_t 445 rfl rfl
set_option maxRecDepth 100000 in
theorem mk_L_88 : Cond.methodLink RL 88 yX5_job ∈ gtbl := in_t 446 rfl rfl
set_option maxRecDepth 100000 in
theorem mk_X5_174 : Cond.methodLink RX5 174 yX1_add ∈ gtbl := in_t 450 rfl rfl
set_option maxRecDepth 100000 in
theorem mk_X1_28 : Cond.methodLink RX1 28 yX1_plan ∈ gtbl := in_t 454 rfl rfl
set_option maxRecDepth 100000 in
theorem mk_X1_31 : Cond.methodLink RX1 31 yX1_nextOf ∈ gtbl := in_t 458 rfl rfl
set_option maxRecDepth 100000 in
theorem kc_X1_41 : Cond.constant RX1 41 (2147483647) ∈ gtbl := in_t 462 rfl rfl
set_option maxRecDepth 100000 in
theorem mk_X1_35 : Cond.methodLink RX1 35 yX1_latenessWith ∈ gtbl := in_t 463 rfl rfl
set_option maxRecDepth 100000 in
theorem mk_X1_42 : Cond.methodLink RX1 42 Lib.Math.max.name ∈ gtbl := in_t 467 rfl rfl
set_option maxRecDepth 100000 in
theorem mk_L_92 : Cond.methodLink RL 92 yX5_clearJobs ∈ gtbl := in_t 468 rfl rfl
set_option maxRecDepth 100000 in
theorem mk_X5_177 : Cond.methodLink RX5 177 yX1_removeAll ∈ gtbl := in_t 472 rfl rfl
set_option maxRecDepth 100000 in
theorem mk_L_97 : Cond.methodLink RL 97 yX5_lateness ∈ gtbl := in_t 476 rfl rfl
set_option maxRecDepth 100000 in
theorem mk_X5_180 : Cond.methodLink RX5 180 yX1_leastLateness ∈ gtbl := in_t 480 rfl rfl
set_option maxRecDepth 100000 in
theorem mk_L_101 : Cond.methodLink RL 101 yX5_order ∈ gtbl := in_t 484 rfl rfl
set_option maxRecDepth 100000 in
theorem mk_L_105 : Cond.methodLink RL 105 yX5_count ∈ gtbl := in_t 488 rfl rfl
set_option maxRecDepth 100000 in
theorem mk_X5_189 : Cond.methodLink RX5 189 yX5_runsInDoubt ∈ gtbl := in_t 492 rfl rfl
set_option maxRecDepth 100000 in
theorem mk_L_109 : Cond.methodLink RL 109 yX5_digest ∈ gtbl := in_t 496 rfl rfl
set_option maxRecDepth 100000 in
theorem kc_X5_192 : Cond.constantLong RX5 192 (139) ∈ gtbl := in_t 500 rfl rfl
set_option maxRecDepth 100000 in
theorem kc_X5_194 : Cond.constantLong RX5 194 (31) ∈ gtbl := in_t 501 rfl rfl
set_option maxRecDepth 100000 in
theorem mk_X5_196 : Cond.methodLink RX5 196 yX5_count ∈ gtbl := in_t 502 rfl rfl
set_option maxRecDepth 100000 in
theorem mk_X5_199 : Cond.methodLink RX5 199 yX2_digestFrom ∈ gtbl := in_t 503 rfl rfl
set_option maxRecDepth 100000 in
theorem kc_X2_56 : Cond.constantLong RX2 56 (31) ∈ gtbl := in_t 507 rfl rfl
set_option maxRecDepth 100000 in
theorem mk_X2_58 : Cond.methodLink RX2 58 yX4_tell ∈ gtbl := in_t 508 rfl rfl
set_option maxRecDepth 100000 in
theorem mk_X5_203 : Cond.methodLink RX5 203 yX0_digestFrom ∈ gtbl := in_t 509 rfl rfl
set_option maxRecDepth 100000 in
theorem kc_X0_122 : Cond.constantLong RX0 122 (31) ∈ gtbl := in_t 513 rfl rfl
set_option maxRecDepth 100000 in
theorem mk_X0_124 : Cond.methodLink RX0 124 yX0_tell ∈ gtbl := in_t 514 rfl rfl
set_option maxRecDepth 100000 in
theorem mk_X5_204 : Cond.methodLink RX5 204 yX3_digestFrom ∈ gtbl := in_t 515 rfl rfl
set_option maxRecDepth 100000 in
theorem kc_X3_39 : Cond.constantLong RX3 39 (31) ∈ gtbl := in_t 519 rfl rfl
set_option maxRecDepth 100000 in
theorem mk_X3_41 : Cond.methodLink RX3 41 yX3_tell ∈ gtbl := in_t 520 rfl rfl
set_option maxRecDepth 100000 in
theorem mk_L_17 : Cond.methodLink RL 17 yX6_part ∈ gtbl := in_t 521 rfl rfl
set_option maxRecDepth 100000 in
theorem mk_X6_1 : Cond.methodLink RX6 1 yX6_in ∈ gtbl := in_t 525 rfl rfl
set_option maxRecDepth 100000 in
theorem mk_L_22 : Cond.methodLink RL 22 yX6_step ∈ gtbl := in_t 528 rfl rfl
set_option maxRecDepth 100000 in
theorem mk_X6_60 : Cond.methodLink RX6 60 yX6_isPart ∈ gtbl := in_t 532 rfl rfl
set_option maxRecDepth 100000 in
theorem mk_X6_64 : Cond.methodLink RX6 64 yX6_steps ∈ gtbl := in_t 537 rfl rfl
set_option maxRecDepth 100000 in
theorem mk_X6_52 : Cond.methodLink RX6 52 yX6_change ∈ gtbl := in_t 541 rfl rfl
set_option maxRecDepth 100000 in
theorem mk_X6_56 : Cond.methodLink RX6 56 yX6_turn ∈ gtbl := in_t 545 rfl rfl
set_option maxRecDepth 100000 in
theorem mk_X6_67 : Cond.methodLink RX6 67 yX6_innermost ∈ gtbl := in_t 549 rfl rfl
set_option maxRecDepth 100000 in
theorem mk_L_26 : Cond.methodLink RL 26 yX6_shell ∈ gtbl := in_t 553 rfl rfl
set_option maxRecDepth 100000 in
theorem kc_X6_71 : Cond.constant RX6 71 (-100000) ∈ gtbl := in_t 557 rfl rfl
set_option maxRecDepth 100000 in
theorem mk_X6_72 : Cond.methodLink RX6 72 yX6_hardness ∈ gtbl := in_t 558 rfl rfl
set_option maxRecDepth 100000 in
theorem mk_L_31 : Cond.methodLink RL 31 yX6_taken ∈ gtbl := in_t 562 rfl rfl
set_option maxRecDepth 100000 in
theorem kc_X6_75 : Cond.constantLong RX6 75 (-9999999999) ∈ gtbl := in_t 566 rfl rfl
set_option maxRecDepth 100000 in
theorem mk_L_35 : Cond.methodLink RL 35 yX6_kept ∈ gtbl := in_t 567 rfl rfl
set_option maxRecDepth 100000 in
theorem ck_L_10 : Cond.classLink RL 10 RX6 ∈ gtbl := in_t 571 rfl rfl
set_option maxRecDepth 100000 in
theorem mk_L_12 : Cond.methodLink RL 12 yX6_init ∈ gtbl := in_t 572 rfl rfl
set_option maxRecDepth 100000 in
theorem mk_X6_77 : Cond.methodLink RX6 77 objectInit ∈ gtbl := in_t 575 rfl rfl
set_option maxRecDepth 100000 in
theorem ac_long : Cond.arrayClass .long ∈ gtbl := in_t 694 rfl rfl
set_option maxRecDepth 100000 in
theorem mk_L_40 : Cond.methodLink RL 40 yX6_line ∈ gtbl := in_t 695 rfl rfl
set_option maxRecDepth 100000 in
theorem mk_X6_153 : Cond.methodLink RX6 153 yX6_isFurnace ∈ gtbl := in_t 699 rfl rfl
set_option maxRecDepth 100000 in
theorem mk_L_45 : Cond.methodLink RL 45 yX6_clear ∈ gtbl := in_t 702 rfl rfl
set_option maxRecDepth 100000 in
theorem mk_L_49 : Cond.methodLink RL 49 yX6_load ∈ gtbl := in_t 706 rfl rfl
set_option maxRecDepth 100000 in
theorem mk_X6_156 : Cond.methodLink RX6 156 yX6_isPlace ∈ gtbl := in_t 710 rfl rfl
set_option maxRecDepth 100000 in
theorem mk_X6_159 : Cond.methodLink RX6 159 yX6_massOf ∈ gtbl := in_t 713 rfl rfl
set_option maxRecDepth 100000 in
theorem mk_L_54 : Cond.methodLink RL 54 yX6_unload ∈ gtbl := in_t 717 rfl rfl
set_option maxRecDepth 100000 in
theorem mk_L_59 : Cond.methodLink RL 59 yX6_probe ∈ gtbl := in_t 721 rfl rfl
set_option maxRecDepth 100000 in
theorem mk_L_63 : Cond.methodLink RL 63 yX6_run ∈ gtbl := in_t 725 rfl rfl
set_option maxRecDepth 100000 in
theorem mk_X6_162 : Cond.methodLink RX6 162 yX6_loadOf ∈ gtbl := in_t 729 rfl rfl
set_option maxRecDepth 100000 in
theorem mk_L_67 : Cond.methodLink RL 67 yX6_tick ∈ gtbl := in_t 733 rfl rfl
set_option maxRecDepth 100000 in
theorem mk_X6_172 : Cond.methodLink RX6 172 yX6_ticks ∈ gtbl := in_t 737 rfl rfl
set_option maxRecDepth 100000 in
theorem mk_X6_168 : Cond.methodLink RX6 168 yX6_liveAt ∈ gtbl := in_t 741 rfl rfl
set_option maxRecDepth 100000 in
theorem mk_X6_176 : Cond.methodLink RX6 176 yX6_running ∈ gtbl := in_t 745 rfl rfl
set_option maxRecDepth 100000 in
theorem mk_L_71 : Cond.methodLink RL 71 yX6_stop ∈ gtbl := in_t 749 rfl rfl
set_option maxRecDepth 100000 in
theorem mk_L_75 : Cond.methodLink RL 75 yX6_survey ∈ gtbl := in_t 753 rfl rfl
set_option maxRecDepth 100000 in
theorem mk_L_79 : Cond.methodLink RL 79 yX6_about ∈ gtbl := in_t 757 rfl rfl
set_option maxRecDepth 100000 in
theorem mk_L_83 : Cond.methodLink RL 83 yX6_runAt ∈ gtbl := in_t 761 rfl rfl
set_option maxRecDepth 100000 in
theorem mk_X6_180 : Cond.methodLink RX6 180 yX6_isWell ∈ gtbl := in_t 765 rfl rfl
set_option maxRecDepth 100000 in
theorem mk_L_87 : Cond.methodLink RL 87 yX6_paper ∈ gtbl := in_t 769 rfl rfl
set_option maxRecDepth 100000 in
theorem mk_L_91 : Cond.methodLink RL 91 yX6_job ∈ gtbl := in_t 773 rfl rfl
set_option maxRecDepth 100000 in
theorem mk_L_96 : Cond.methodLink RL 96 yX6_clearJobs ∈ gtbl := in_t 777 rfl rfl
set_option maxRecDepth 100000 in
theorem mk_L_100 : Cond.methodLink RL 100 yX6_lateness ∈ gtbl := in_t 781 rfl rfl
set_option maxRecDepth 100000 in
theorem mk_X6_190 : Cond.methodLink RX6 190 yX6_weigh ∈ gtbl := in_t 785 rfl rfl
set_option maxRecDepth 100000 in
theorem kc_X6_186 : Cond.constant RX6 186 (1000000) ∈ gtbl := in_t 789 rfl rfl
set_option maxRecDepth 100000 in
theorem mk_X6_187 : Cond.methodLink RX6 187 yX6_lateBy ∈ gtbl := in_t 790 rfl rfl
set_option maxRecDepth 100000 in
theorem mk_L_104 : Cond.methodLink RL 104 yX6_order ∈ gtbl := in_t 794 rfl rfl
set_option maxRecDepth 100000 in
theorem mk_L_108 : Cond.methodLink RL 108 yX6_count ∈ gtbl := in_t 798 rfl rfl
set_option maxRecDepth 100000 in
theorem mk_L_113 : Cond.methodLink RL 113 yX6_digest ∈ gtbl := in_t 802 rfl rfl
set_option maxRecDepth 100000 in
theorem kc_X6_193 : Cond.constantLong RX6 193 (139) ∈ gtbl := in_t 806 rfl rfl
set_option maxRecDepth 100000 in
theorem kc_X6_195 : Cond.constantLong RX6 195 (31) ∈ gtbl := in_t 807 rfl rfl
set_option maxRecDepth 100000 in
theorem mk_X6_197 : Cond.methodLink RX6 197 yX6_count ∈ gtbl := in_t 808 rfl rfl
set_option maxRecDepth 100000 in
theorem mk_X6_200 : Cond.methodLink RX6 200 yX6_shell ∈ gtbl := in_t 809 rfl rfl
set_option maxRecDepth 100000 in
theorem mk_X6_204 : Cond.methodLink RX6 204 yX6_about ∈ gtbl := in_t 810 rfl rfl
set_option maxRecDepth 100000 in
theorem mk_X6_207 : Cond.methodLink RX6 207 yX6_runAt ∈ gtbl := in_t 811 rfl rfl
set_option maxRecDepth 100000 in
theorem mk_X5_29 : ∀ D U, hm_K D U → va_Nw (.methodLinkNest RX5 29 yX1_init RX5) U := fun _ _ h => h.2.1.1
set_option maxRecDepth 100000 in
theorem mk_X5_34 : ∀ D U, hm_K D U → va_Nw (.methodLinkNest RX5 34 yX0_init RX5) U := fun _ _ h => h.2.1.2.1
set_option maxRecDepth 100000 in
theorem mk_X2_36 : ∀ D U, hm_K D U → va_Nw (.methodLinkNest RX2 36 yX4_init RX5) U := fun _ _ h => h.2.1.2.2.1
set_option maxRecDepth 100000 in
theorem mk_X4_49 : ∀ D U, hm_K D U → va_Nw (.methodLinkNest RX4 49 yX5_within RX5) U := fun _ _ h => h.2.1.2.2.2.1
set_option maxRecDepth 100000 in
theorem mk_X0_115 : ∀ D U, hm_K D U → va_Nw (.methodLinkNest RX0 115 yX5_truth RX5) U := fun _ _ h => h.2.1.2.2.2.2.1
set_option maxRecDepth 100000 in
theorem mk_X3_25 : ∀ D U, hm_K D U → va_Nw (.methodLinkNest RX3 25 yX5_truth RX5) U := fun _ _ h => h.2.1.2.2.2.2.2
set_option maxRecDepth 100000 in
theorem ao_RX2 : ∀ D U, hm_K D U → va_AO RX2 U := fun _ _ h => h.2.2.1
set_option maxRecDepth 100000 in
theorem ao_RX0 : ∀ D U, hm_K D U → va_AO RX0 U := fun _ _ h => h.2.2.2.1
set_option maxRecDepth 100000 in
theorem ao_RX3 : ∀ D U, hm_K D U → va_AO RX3 U := fun _ _ h => h.2.2.2.2.1
set_option maxRecDepth 100000 in
theorem ao_RX4 : ∀ D U, hm_K D U → va_AO RX4 U := fun _ _ h => h.2.2.2.2.2
set_option maxRecDepth 100000 in
theorem oi_i : Cond.instanceMethod objectInit ∈ gtbl := in_t 15 rfl rfl
set_option maxRecDepth 100000 in
theorem oi_c : Cond.code objectInit ⟨#[0xb1]⟩ 1 none ∈ gtbl := in_t 16 rfl rfl
set_option maxRecDepth 100000 in
theorem mmin_s : Cond.static Lib.Math.min.name ∈ gtbl := in_t 226 rfl rfl
set_option maxRecDepth 100000 in
theorem mmin_c : Cond.code Lib.Math.min.name Lib.Math.min.code 2 (some .int) ∈ gtbl := in_t 227 rfl rfl
set_option maxRecDepth 100000 in
theorem mmax_s : Cond.static Lib.Math.max.name ∈ gtbl := in_t 372 rfl rfl
set_option maxRecDepth 100000 in
theorem mmax_c : Cond.code Lib.Math.max.name Lib.Math.max.code 2 (some .int) ∈ gtbl := in_t 373 rfl rfl
set_option maxRecDepth 100000 in
theorem math_i : Cond.initialized "java/lang/Math" ∈ gtbl := in_t 7 rfl rfl
abbrev md_X5_init : Md_ := (cX5_init, RX5, "<init>", 2, none, 2, 40, 40, 1000)
set_option maxRecDepth 100000 in
theorem yl_X5_init : hy_L yX5_init md_X5_init 0 := ⟨in_t 13 rfl rfl, in_t 1 rfl rfl, by decide +kernel⟩
set_option maxRecDepth 100000 in
theorem yi_X5_init : Cond.instanceMethod yX5_init ∈ gtbl := in_t 12 rfl rfl
abbrev md_X1_init : Md_ := (cX1_init, RX1, "<init>", 1, none, 1, 20, 4, 149)
set_option maxRecDepth 100000 in
theorem yl_X1_init : hy_L yX1_init md_X1_init 0 := ⟨in_t 27 rfl rfl, in_t 2 rfl rfl, by decide +kernel⟩
set_option maxRecDepth 100000 in
theorem yi_X1_init : Cond.instanceMethod yX1_init ∈ gtbl := in_t 26 rfl rfl
abbrev md_X0_init : Md_ := (cX0_init, RX0, "<init>", 1, none, 1, 20, 6, 36)
set_option maxRecDepth 100000 in
theorem yl_X0_init : hy_L yX0_init md_X0_init 0 := ⟨in_t 51 rfl rfl, in_t 3 rfl rfl, by decide +kernel⟩
set_option maxRecDepth 100000 in
theorem yi_X0_init : Cond.instanceMethod yX0_init ∈ gtbl := in_t 50 rfl rfl
abbrev md_X5_part : Md_ := (cX5_part, RX5, "part", 7, (some .int), 3, 68, 8, 52)
set_option maxRecDepth 100000 in
theorem yl_X5_part : hy_L yX5_part md_X5_part 6 := ⟨in_t 123 rfl rfl, in_t 1 rfl rfl, by decide +kernel⟩
set_option maxRecDepth 100000 in
theorem yv_X5_part : hy_V yX5_part 5 := ⟨RX5, TX5, 6, hc_5, in_t 121 rfl rfl, in_t 122 rfl rfl⟩
abbrev md_X5_within : Md_ := (cX5_within, RX5, "within", 3, (some .boolean), 0, 0, 0, 0)
set_option maxRecDepth 100000 in
theorem yl_X5_within : hy_L yX5_within md_X5_within 3 := ⟨in_t 126 rfl rfl, in_t 1 rfl rfl, by decide +kernel⟩
set_option maxRecDepth 100000 in
theorem ys_X5_within : Cond.static yX5_within ∈ gtbl := in_t 125 rfl rfl
abbrev md_X2_init : Md_ := (cX2_init, RX2, "<init>", 9, none, 2, 40, 7, 42)
set_option maxRecDepth 100000 in
theorem yl_X2_init : hy_L yX2_init md_X2_init 7 := ⟨in_t 130 rfl rfl, in_t 5 rfl rfl, by decide +kernel⟩
set_option maxRecDepth 100000 in
theorem yi_X2_init : Cond.instanceMethod yX2_init ∈ gtbl := in_t 129 rfl rfl
abbrev md_X4_init : Md_ := (cX4_init, RX4, "<init>", 1, none, 1, 20, 0, 0)
set_option maxRecDepth 100000 in
theorem yl_X4_init : hy_L yX4_init md_X4_init 0 := ⟨in_t 137 rfl rfl, in_t 6 rfl rfl, by decide +kernel⟩
set_option maxRecDepth 100000 in
theorem yi_X4_init : Cond.instanceMethod yX4_init ∈ gtbl := in_t 136 rfl rfl
abbrev md_X5_step : Md_ := (cX5_step, RX5, "step", 6, (some .int), 4, 89, 0, 0)
set_option maxRecDepth 100000 in
theorem yl_X5_step : hy_L yX5_step md_X5_step 3 := ⟨in_t 200 rfl rfl, in_t 1 rfl rfl, by decide +kernel⟩
set_option maxRecDepth 100000 in
theorem yv_X5_step : hy_V yX5_step 5 := ⟨RX5, TX5, 6, hc_5, in_t 198 rfl rfl, in_t 199 rfl rfl⟩
abbrev md_X5_partAt : Md_ := (cX5_partAt, RX5, "partAt", 2, (some (.object RX2)), 1, 22, 0, 0)
set_option maxRecDepth 100000 in
theorem yl_X5_partAt : hy_L yX5_partAt md_X5_partAt 1 := ⟨in_t 204 rfl rfl, in_t 1 rfl rfl, by decide +kernel⟩
set_option maxRecDepth 100000 in
theorem yv_X5_partAt : hy_V yX5_partAt 5 := ⟨RX5, TX5, 6, hc_5, in_t 203 rfl rfl, in_g 0 rfl rfl⟩
abbrev md_X2_stepBeside : Md_ := (cX2_stepBeside, RX2, "stepBeside", 3, none, 3, 67, 0, 0)
set_option maxRecDepth 100000 in
theorem yl_X2_stepBeside : hy_L yX2_stepBeside md_X2_stepBeside 1 := ⟨in_t 208 rfl rfl, in_t 5 rfl rfl, by decide +kernel⟩
set_option maxRecDepth 100000 in
theorem yv_X2_stepBeside : hy_V yX2_stepBeside 2 := ⟨RX2, TX2, 10, hc_2, in_t 206 rfl rfl, in_t 207 rfl rfl⟩
abbrev md_X2_moveWarmth : Md_ := (cX2_moveWarmth, RX2, "moveWarmth", 5, none, 1, 21, 0, 0)
set_option maxRecDepth 100000 in
theorem yl_X2_moveWarmth : hy_L yX2_moveWarmth md_X2_moveWarmth 1 := ⟨in_t 212 rfl rfl, in_t 5 rfl rfl, by decide +kernel⟩
set_option maxRecDepth 100000 in
theorem yv_X2_moveWarmth : hy_V yX2_moveWarmth 2 := ⟨RX2, TX2, 10, hc_2, in_t 211 rfl rfl, in_g 1 rfl rfl⟩
abbrev md_X2_flowFrom : Md_ := (cX2_flowFrom, RX2, "flowFrom", 2, (some .int), 0, 0, 0, 0)
set_option maxRecDepth 100000 in
theorem yl_X2_flowFrom : hy_L yX2_flowFrom md_X2_flowFrom 1 := ⟨in_t 216 rfl rfl, in_t 5 rfl rfl, by decide +kernel⟩
set_option maxRecDepth 100000 in
theorem yv_X2_flowFrom : hy_V yX2_flowFrom 2 := ⟨RX2, TX2, 10, hc_2, in_t 215 rfl rfl, in_g 2 rfl rfl⟩
abbrev md_X4_change : Md_ := (cX4_change, RX4, "change", 3, none, 2, 45, 0, 0)
set_option maxRecDepth 100000 in
theorem yl_X4_change : hy_L yX4_change md_X4_change 2 := ⟨in_t 220 rfl rfl, in_t 6 rfl rfl, by decide +kernel⟩
set_option maxRecDepth 100000 in
theorem yv_X4_change : hy_V yX4_change 4 := ⟨RX4, TX4, 6, hc_4, in_t 218 rfl rfl, in_t 219 rfl rfl⟩
abbrev md_X4_becomeHot : Md_ := (cX4_becomeHot, RX4, "becomeHot", 5, none, 1, 21, 0, 0)
set_option maxRecDepth 100000 in
theorem yl_X4_becomeHot : hy_L yX4_becomeHot md_X4_becomeHot 1 := ⟨in_t 224 rfl rfl, in_t 6 rfl rfl, by decide +kernel⟩
set_option maxRecDepth 100000 in
theorem yv_X4_becomeHot : hy_V yX4_becomeHot 4 := ⟨RX4, TX4, 6, hc_4, in_t 223 rfl rfl, in_g 3 rfl rfl⟩
abbrev md_X4_becomeLamellar : Md_ := (cX4_becomeLamellar, RX4, "becomeLamellar", 2, none, 0, 0, 0, 0)
set_option maxRecDepth 100000 in
theorem yl_X4_becomeLamellar : hy_L yX4_becomeLamellar md_X4_becomeLamellar 1 := ⟨in_t 231 rfl rfl, in_t 6 rfl rfl, by decide +kernel⟩
set_option maxRecDepth 100000 in
theorem yv_X4_becomeLamellar : hy_V yX4_becomeLamellar 4 := ⟨RX4, TX4, 6, hc_4, in_t 230 rfl rfl, in_g 4 rfl rfl⟩
abbrev md_X4_becomeTough : Md_ := (cX4_becomeTough, RX4, "becomeTough", 2, none, 0, 0, 0, 0)
set_option maxRecDepth 100000 in
theorem yl_X4_becomeTough : hy_L yX4_becomeTough md_X4_becomeTough 1 := ⟨in_t 235 rfl rfl, in_t 6 rfl rfl, by decide +kernel⟩
set_option maxRecDepth 100000 in
theorem yv_X4_becomeTough : hy_V yX4_becomeTough 4 := ⟨RX4, TX4, 6, hc_4, in_t 234 rfl rfl, in_g 5 rfl rfl⟩
abbrev md_X4_becomeHard : Md_ := (cX4_becomeHard, RX4, "becomeHard", 3, none, 1, 21, 0, 0)
set_option maxRecDepth 100000 in
theorem yl_X4_becomeHard : hy_L yX4_becomeHard md_X4_becomeHard 1 := ⟨in_t 239 rfl rfl, in_t 6 rfl rfl, by decide +kernel⟩
set_option maxRecDepth 100000 in
theorem yv_X4_becomeHard : hy_V yX4_becomeHard 4 := ⟨RX4, TX4, 6, hc_4, in_t 238 rfl rfl, in_g 6 rfl rfl⟩
abbrev md_X4_draw : Md_ := (cX4_draw, RX4, "draw", 1, none, 1, 22, 0, 0)
set_option maxRecDepth 100000 in
theorem yl_X4_draw : hy_L yX4_draw md_X4_draw 0 := ⟨in_t 243 rfl rfl, in_t 6 rfl rfl, by decide +kernel⟩
set_option maxRecDepth 100000 in
theorem yv_X4_draw : hy_V yX4_draw 4 := ⟨RX4, TX4, 6, hc_4, in_t 242 rfl rfl, in_g 7 rfl rfl⟩
abbrev md_X2_innermostWarmth : Md_ := (cX2_innermostWarmth, RX2, "innermostWarmth", 1, (some .int), 0, 0, 0, 0)
set_option maxRecDepth 100000 in
theorem yl_X2_innermostWarmth : hy_L yX2_innermostWarmth md_X2_innermostWarmth 0 := ⟨in_t 248 rfl rfl, in_t 5 rfl rfl, by decide +kernel⟩
set_option maxRecDepth 100000 in
theorem yv_X2_innermostWarmth : hy_V yX2_innermostWarmth 2 := ⟨RX2, TX2, 10, hc_2, in_t 246 rfl rfl, in_t 247 rfl rfl⟩
abbrev md_X5_shell : Md_ := (cX5_shell, RX5, "shell", 5, (some .int), 3, 63, 0, 0)
set_option maxRecDepth 100000 in
theorem yl_X5_shell : hy_L yX5_shell md_X5_shell 3 := ⟨in_t 252 rfl rfl, in_t 1 rfl rfl, by decide +kernel⟩
set_option maxRecDepth 100000 in
theorem yv_X5_shell : hy_V yX5_shell 5 := ⟨RX5, TX5, 6, hc_5, in_t 250 rfl rfl, in_t 251 rfl rfl⟩
abbrev md_X4_tell : Md_ := (cX4_tell, RX4, "tell", 2, (some .int), 2, 42, 0, 0)
set_option maxRecDepth 100000 in
theorem yl_X4_tell : hy_L yX4_tell md_X4_tell 1 := ⟨in_t 257 rfl rfl, in_t 6 rfl rfl, by decide +kernel⟩
set_option maxRecDepth 100000 in
theorem yv_X4_tell : hy_V yX4_tell 4 := ⟨RX4, TX4, 6, hc_4, in_t 255 rfl rfl, in_t 256 rfl rfl⟩
abbrev md_X4_hardness : Md_ := (cX4_hardness, RX4, "hardness", 2, (some .int), 1, 21, 0, 0)
set_option maxRecDepth 100000 in
theorem yl_X4_hardness : hy_L yX4_hardness md_X4_hardness 0 := ⟨in_t 261 rfl rfl, in_t 6 rfl rfl, by decide +kernel⟩
set_option maxRecDepth 100000 in
theorem yv_X4_hardness : hy_V yX4_hardness 4 := ⟨RX4, TX4, 6, hc_4, in_t 259 rfl rfl, in_t 260 rfl rfl⟩
abbrev md_X5_taken : Md_ := (cX5_taken, RX5, "taken", 3, (some .long), 2, 43, 0, 0)
set_option maxRecDepth 100000 in
theorem yl_X5_taken : hy_L yX5_taken md_X5_taken 1 := ⟨in_t 265 rfl rfl, in_t 1 rfl rfl, by decide +kernel⟩
set_option maxRecDepth 100000 in
theorem yv_X5_taken : hy_V yX5_taken 5 := ⟨RX5, TX5, 6, hc_5, in_t 263 rfl rfl, in_t 264 rfl rfl⟩
abbrev md_X5_kept : Md_ := (cX5_kept, RX5, "kept", 3, (some .long), 2, 43, 0, 0)
set_option maxRecDepth 100000 in
theorem yl_X5_kept : hy_L yX5_kept md_X5_kept 1 := ⟨in_t 270 rfl rfl, in_t 1 rfl rfl, by decide +kernel⟩
set_option maxRecDepth 100000 in
theorem yv_X5_kept : hy_V yX5_kept 5 := ⟨RX5, TX5, 6, hc_5, in_t 268 rfl rfl, in_t 269 rfl rfl⟩
abbrev md_X2_warmthAstray : Md_ := (cX2_warmthAstray, RX2, "warmthAstray", 4, (some .long), 0, 0, 0, 0)
set_option maxRecDepth 100000 in
theorem yl_X2_warmthAstray : hy_L yX2_warmthAstray md_X2_warmthAstray 0 := ⟨in_t 274 rfl rfl, in_t 5 rfl rfl, by decide +kernel⟩
set_option maxRecDepth 100000 in
theorem yv_X2_warmthAstray : hy_V yX2_warmthAstray 2 := ⟨RX2, TX2, 10, hc_2, in_t 272 rfl rfl, in_t 273 rfl rfl⟩
abbrev md_X5_line : Md_ := (cX5_line, RX5, "line", 6, (some .int), 2, 44, 0, 0)
set_option maxRecDepth 100000 in
theorem yl_X5_line : hy_L yX5_line md_X5_line 4 := ⟨in_t 278 rfl rfl, in_t 1 rfl rfl, by decide +kernel⟩
set_option maxRecDepth 100000 in
theorem yv_X5_line : hy_V yX5_line 5 := ⟨RX5, TX5, 6, hc_5, in_t 276 rfl rfl, in_t 277 rfl rfl⟩
abbrev md_X5_furnaceAt : Md_ := (cX5_furnaceAt, RX5, "furnaceAt", 2, (some (.object RX0)), 1, 22, 0, 0)
set_option maxRecDepth 100000 in
theorem yl_X5_furnaceAt : hy_L yX5_furnaceAt md_X5_furnaceAt 1 := ⟨in_t 282 rfl rfl, in_t 1 rfl rfl, by decide +kernel⟩
set_option maxRecDepth 100000 in
theorem yv_X5_furnaceAt : hy_V yX5_furnaceAt 5 := ⟨RX5, TX5, 6, hc_5, in_t 281 rfl rfl, in_g 8 rfl rfl⟩
abbrev md_X5_lineIsAsTold : Md_ := (cX5_lineIsAsTold, RX5, "lineIsAsTold", 3, (some .boolean), 1, 22, 0, 0)
set_option maxRecDepth 100000 in
theorem yl_X5_lineIsAsTold : hy_L yX5_lineIsAsTold md_X5_lineIsAsTold 3 := ⟨in_t 285 rfl rfl, in_t 1 rfl rfl, by decide +kernel⟩
set_option maxRecDepth 100000 in
theorem ys_X5_lineIsAsTold : Cond.static yX5_lineIsAsTold ∈ gtbl := in_t 284 rfl rfl
abbrev md_X0_isRunning : Md_ := (cX0_isRunning, RX0, "isRunning", 1, (some .boolean), 0, 0, 0, 0)
set_option maxRecDepth 100000 in
theorem yl_X0_isRunning : hy_L yX0_isRunning md_X0_isRunning 0 := ⟨in_t 289 rfl rfl, in_t 3 rfl rfl, by decide +kernel⟩
set_option maxRecDepth 100000 in
theorem yv_X0_isRunning : hy_V yX0_isRunning 0 := ⟨RX0, TX0, 13, hc_0, in_t 287 rfl rfl, in_t 288 rfl rfl⟩
abbrev md_X0_addLine : Md_ := (cX0_addLine, RX0, "addLine", 4, (some .int), 0, 0, 0, 0)
set_option maxRecDepth 100000 in
theorem yl_X0_addLine : hy_L yX0_addLine md_X0_addLine 3 := ⟨in_t 293 rfl rfl, in_t 3 rfl rfl, by decide +kernel⟩
set_option maxRecDepth 100000 in
theorem yv_X0_addLine : hy_V yX0_addLine 0 := ⟨RX0, TX0, 13, hc_0, in_t 291 rfl rfl, in_t 292 rfl rfl⟩
abbrev md_X5_clear : Md_ := (cX5_clear, RX5, "clear", 4, (some .int), 2, 43, 0, 0)
set_option maxRecDepth 100000 in
theorem yl_X5_clear : hy_L yX5_clear md_X5_clear 1 := ⟨in_t 297 rfl rfl, in_t 1 rfl rfl, by decide +kernel⟩
set_option maxRecDepth 100000 in
theorem yv_X5_clear : hy_V yX5_clear 5 := ⟨RX5, TX5, 6, hc_5, in_t 295 rfl rfl, in_t 296 rfl rfl⟩
abbrev md_X5_load : Md_ := (cX5_load, RX5, "load", 6, (some .int), 2, 43, 0, 0)
set_option maxRecDepth 100000 in
theorem yl_X5_load : hy_L yX5_load md_X5_load 3 := ⟨in_t 301 rfl rfl, in_t 1 rfl rfl, by decide +kernel⟩
set_option maxRecDepth 100000 in
theorem yv_X5_load : hy_V yX5_load 5 := ⟨RX5, TX5, 6, hc_5, in_t 299 rfl rfl, in_t 300 rfl rfl⟩
abbrev md_X0_massInside : Md_ := (cX0_massInside, RX0, "massInside", 3, (some .int), 0, 0, 0, 0)
set_option maxRecDepth 100000 in
theorem yl_X0_massInside : hy_L yX0_massInside md_X0_massInside 0 := ⟨in_t 305 rfl rfl, in_t 3 rfl rfl, by decide +kernel⟩
set_option maxRecDepth 100000 in
theorem yv_X0_massInside : hy_V yX0_massInside 0 := ⟨RX0, TX0, 13, hc_0, in_t 303 rfl rfl, in_t 304 rfl rfl⟩
abbrev md_X5_unload : Md_ := (cX5_unload, RX5, "unload", 5, (some .int), 2, 43, 0, 0)
set_option maxRecDepth 100000 in
theorem yl_X5_unload : hy_L yX5_unload md_X5_unload 2 := ⟨in_t 309 rfl rfl, in_t 1 rfl rfl, by decide +kernel⟩
set_option maxRecDepth 100000 in
theorem yv_X5_unload : hy_V yX5_unload 5 := ⟨RX5, TX5, 6, hc_5, in_t 307 rfl rfl, in_t 308 rfl rfl⟩
abbrev md_X5_probe : Md_ := (cX5_probe, RX5, "probe", 6, (some .int), 2, 43, 0, 0)
set_option maxRecDepth 100000 in
theorem yl_X5_probe : hy_L yX5_probe md_X5_probe 4 := ⟨in_t 313 rfl rfl, in_t 1 rfl rfl, by decide +kernel⟩
set_option maxRecDepth 100000 in
theorem yv_X5_probe : hy_V yX5_probe 5 := ⟨RX5, TX5, 6, hc_5, in_t 311 rfl rfl, in_t 312 rfl rfl⟩
abbrev md_X5_run : Md_ := (cX5_run, RX5, "run", 4, (some .int), 2, 43, 1, 6)
set_option maxRecDepth 100000 in
theorem yl_X5_run : hy_L yX5_run md_X5_run 1 := ⟨in_t 317 rfl rfl, in_t 1 rfl rfl, by decide +kernel⟩
set_option maxRecDepth 100000 in
theorem yv_X5_run : hy_V yX5_run 5 := ⟨RX5, TX5, 6, hc_5, in_t 315 rfl rfl, in_t 316 rfl rfl⟩
abbrev md_X0_partsInside : Md_ := (cX0_partsInside, RX0, "partsInside", 3, (some .int), 0, 0, 0, 0)
set_option maxRecDepth 100000 in
theorem yl_X0_partsInside : hy_L yX0_partsInside md_X0_partsInside 0 := ⟨in_t 321 rfl rfl, in_t 3 rfl rfl, by decide +kernel⟩
set_option maxRecDepth 100000 in
theorem yv_X0_partsInside : hy_V yX0_partsInside 0 := ⟨RX0, TX0, 13, hc_0, in_t 319 rfl rfl, in_t 320 rfl rfl⟩
abbrev md_X3_init : Md_ := (cX3_init, RX3, "<init>", 2, none, 1, 20, 0, 0)
set_option maxRecDepth 100000 in
theorem yl_X3_init : hy_L yX3_init md_X3_init 1 := ⟨in_t 325 rfl rfl, in_t 8 rfl rfl, by decide +kernel⟩
set_option maxRecDepth 100000 in
theorem yi_X3_init : Cond.instanceMethod yX3_init ∈ gtbl := in_t 324 rfl rfl
abbrev md_X0_begin : Md_ := (cX0_begin, RX0, "begin", 3, none, 0, 0, 0, 0)
set_option maxRecDepth 100000 in
theorem yl_X0_begin : hy_L yX0_begin md_X0_begin 1 := ⟨in_t 353 rfl rfl, in_t 3 rfl rfl, by decide +kernel⟩
set_option maxRecDepth 100000 in
theorem yv_X0_begin : hy_V yX0_begin 0 := ⟨RX0, TX0, 13, hc_0, in_t 351 rfl rfl, in_t 352 rfl rfl⟩
abbrev md_X5_tick : Md_ := (cX5_tick, RX5, "tick", 4, (some .int), 5, 110, 0, 0)
set_option maxRecDepth 100000 in
theorem yl_X5_tick : hy_L yX5_tick md_X5_tick 1 := ⟨in_t 357 rfl rfl, in_t 1 rfl rfl, by decide +kernel⟩
set_option maxRecDepth 100000 in
theorem yv_X5_tick : hy_V yX5_tick 5 := ⟨RX5, TX5, 6, hc_5, in_t 355 rfl rfl, in_t 356 rfl rfl⟩
abbrev md_X0_doTick : Md_ := (cX0_doTick, RX0, "doTick", 2, none, 4, 89, 0, 0)
set_option maxRecDepth 100000 in
theorem yl_X0_doTick : hy_L yX0_doTick md_X0_doTick 0 := ⟨in_t 361 rfl rfl, in_t 3 rfl rfl, by decide +kernel⟩
set_option maxRecDepth 100000 in
theorem yv_X0_doTick : hy_V yX0_doTick 0 := ⟨RX0, TX0, 13, hc_0, in_t 359 rfl rfl, in_t 360 rfl rfl⟩
abbrev md_X0_gasByLine : Md_ := (cX0_gasByLine, RX0, "gasByLine", 1, (some .int), 2, 43, 0, 0)
set_option maxRecDepth 100000 in
theorem yl_X0_gasByLine : hy_L yX0_gasByLine md_X0_gasByLine 0 := ⟨in_t 365 rfl rfl, in_t 3 rfl rfl, by decide +kernel⟩
set_option maxRecDepth 100000 in
theorem yv_X0_gasByLine : hy_V yX0_gasByLine 0 := ⟨RX0, TX0, 13, hc_0, in_t 364 rfl rfl, in_g 9 rfl rfl⟩
abbrev md_X0_gasNearer : Md_ := (cX0_gasNearer, RX0, "gasNearer", 3, (some .int), 1, 21, 0, 0)
set_option maxRecDepth 100000 in
theorem yl_X0_gasNearer : hy_L yX0_gasNearer md_X0_gasNearer 2 := ⟨in_t 369 rfl rfl, in_t 3 rfl rfl, by decide +kernel⟩
set_option maxRecDepth 100000 in
theorem yv_X0_gasNearer : hy_V yX0_gasNearer 0 := ⟨RX0, TX0, 13, hc_0, in_t 368 rfl rfl, in_g 10 rfl rfl⟩
abbrev md_X0_lineIsOver : Md_ := (cX0_lineIsOver, RX0, "lineIsOver", 2, (some .boolean), 2, 45, 0, 0)
set_option maxRecDepth 100000 in
theorem yl_X0_lineIsOver : hy_L yX0_lineIsOver md_X0_lineIsOver 1 := ⟨in_t 378 rfl rfl, in_t 3 rfl rfl, by decide +kernel⟩
set_option maxRecDepth 100000 in
theorem yv_X0_lineIsOver : hy_V yX0_lineIsOver 0 := ⟨RX0, TX0, 13, hc_0, in_t 377 rfl rfl, in_g 11 rfl rfl⟩
abbrev md_X0_countSoak : Md_ := (cX0_countSoak, RX0, "countSoak", 4, none, 1, 22, 0, 0)
set_option maxRecDepth 100000 in
theorem yl_X0_countSoak : hy_L yX0_countSoak md_X0_countSoak 1 := ⟨in_t 382 rfl rfl, in_t 3 rfl rfl, by decide +kernel⟩
set_option maxRecDepth 100000 in
theorem yv_X0_countSoak : hy_V yX0_countSoak 0 := ⟨RX0, TX0, 13, hc_0, in_t 381 rfl rfl, in_g 12 rfl rfl⟩
abbrev md_X0_goToNextLine : Md_ := (cX0_goToNextLine, RX0, "goToNextLine", 1, none, 2, 42, 0, 0)
set_option maxRecDepth 100000 in
theorem yl_X0_goToNextLine : hy_L yX0_goToNextLine md_X0_goToNextLine 0 := ⟨in_t 388 rfl rfl, in_t 3 rfl rfl, by decide +kernel⟩
set_option maxRecDepth 100000 in
theorem yv_X0_goToNextLine : hy_V yX0_goToNextLine 0 := ⟨RX0, TX0, 13, hc_0, in_t 387 rfl rfl, in_g 13 rfl rfl⟩
abbrev md_X0_end : Md_ := (cX0_end, RX0, "end", 2, none, 1, 21, 0, 0)
set_option maxRecDepth 100000 in
theorem yl_X0_end : hy_L yX0_end md_X0_end 1 := ⟨in_t 392 rfl rfl, in_t 3 rfl rfl, by decide +kernel⟩
set_option maxRecDepth 100000 in
theorem yv_X0_end : hy_V yX0_end 0 := ⟨RX0, TX0, 13, hc_0, in_t 390 rfl rfl, in_t 391 rfl rfl⟩
abbrev md_X3_end : Md_ := (cX3_end, RX3, "end", 2, none, 0, 0, 0, 0)
set_option maxRecDepth 100000 in
theorem yl_X3_end : hy_L yX3_end md_X3_end 1 := ⟨in_t 396 rfl rfl, in_t 8 rfl rfl, by decide +kernel⟩
set_option maxRecDepth 100000 in
theorem yv_X3_end : hy_V yX3_end 3 := ⟨RX3, TX3, 6, hc_3, in_t 394 rfl rfl, in_t 395 rfl rfl⟩
abbrev md_X5_furnacesRunning : Md_ := (cX5_furnacesRunning, RX5, "furnacesRunning", 3, (some .int), 1, 20, 0, 0)
set_option maxRecDepth 100000 in
theorem yl_X5_furnacesRunning : hy_L yX5_furnacesRunning md_X5_furnacesRunning 0 := ⟨in_t 400 rfl rfl, in_t 1 rfl rfl, by decide +kernel⟩
set_option maxRecDepth 100000 in
theorem yv_X5_furnacesRunning : hy_V yX5_furnacesRunning 5 := ⟨RX5, TX5, 6, hc_5, in_t 399 rfl rfl, in_g 14 rfl rfl⟩
abbrev md_X5_stop : Md_ := (cX5_stop, RX5, "stop", 4, (some .int), 2, 43, 0, 0)
set_option maxRecDepth 100000 in
theorem yl_X5_stop : hy_L yX5_stop md_X5_stop 1 := ⟨in_t 404 rfl rfl, in_t 1 rfl rfl, by decide +kernel⟩
set_option maxRecDepth 100000 in
theorem yv_X5_stop : hy_V yX5_stop 5 := ⟨RX5, TX5, 6, hc_5, in_t 402 rfl rfl, in_t 403 rfl rfl⟩
abbrev md_X5_survey : Md_ := (cX5_survey, RX5, "survey", 5, (some .int), 2, 43, 0, 0)
set_option maxRecDepth 100000 in
theorem yl_X5_survey : hy_L yX5_survey md_X5_survey 2 := ⟨in_t 409 rfl rfl, in_t 1 rfl rfl, by decide +kernel⟩
set_option maxRecDepth 100000 in
theorem yv_X5_survey : hy_V yX5_survey 5 := ⟨RX5, TX5, 6, hc_5, in_t 407 rfl rfl, in_t 408 rfl rfl⟩
abbrev md_X5_doubtRuns : Md_ := (cX5_doubtRuns, RX5, "doubtRuns", 5, (some .int), 0, 0, 0, 0)
set_option maxRecDepth 100000 in
theorem yl_X5_doubtRuns : hy_L yX5_doubtRuns md_X5_doubtRuns 2 := ⟨in_t 413 rfl rfl, in_t 1 rfl rfl, by decide +kernel⟩
set_option maxRecDepth 100000 in
theorem yv_X5_doubtRuns : hy_V yX5_doubtRuns 5 := ⟨RX5, TX5, 6, hc_5, in_t 412 rfl rfl, in_g 15 rfl rfl⟩
abbrev md_X5_about : Md_ := (cX5_about, RX5, "about", 4, (some .int), 2, 43, 0, 0)
set_option maxRecDepth 100000 in
theorem yl_X5_about : hy_L yX5_about md_X5_about 2 := ⟨in_t 417 rfl rfl, in_t 1 rfl rfl, by decide +kernel⟩
set_option maxRecDepth 100000 in
theorem yv_X5_about : hy_V yX5_about 5 := ⟨RX5, TX5, 6, hc_5, in_t 415 rfl rfl, in_t 416 rfl rfl⟩
abbrev md_X0_tell : Md_ := (cX0_tell, RX0, "tell", 2, (some .int), 1, 22, 0, 0)
set_option maxRecDepth 100000 in
theorem yl_X0_tell : hy_L yX0_tell md_X0_tell 1 := ⟨in_t 421 rfl rfl, in_t 3 rfl rfl, by decide +kernel⟩
set_option maxRecDepth 100000 in
theorem yv_X0_tell : hy_V yX0_tell 0 := ⟨RX0, TX0, 13, hc_0, in_t 419 rfl rfl, in_t 420 rfl rfl⟩
abbrev md_X5_truth : Md_ := (cX5_truth, RX5, "truth", 1, (some .int), 0, 0, 0, 0)
set_option maxRecDepth 100000 in
theorem yl_X5_truth : hy_L yX5_truth md_X5_truth 1 := ⟨in_t 425 rfl rfl, in_t 1 rfl rfl, by decide +kernel⟩
set_option maxRecDepth 100000 in
theorem ys_X5_truth : Cond.static yX5_truth ∈ gtbl := in_t 424 rfl rfl
abbrev md_X5_runAt : Md_ := (cX5_runAt, RX5, "runAt", 3, (some .int), 2, 41, 0, 0)
set_option maxRecDepth 100000 in
theorem yl_X5_runAt : hy_L yX5_runAt md_X5_runAt 2 := ⟨in_t 430 rfl rfl, in_t 1 rfl rfl, by decide +kernel⟩
set_option maxRecDepth 100000 in
theorem yv_X5_runAt : hy_V yX5_runAt 5 := ⟨RX5, TX5, 6, hc_5, in_t 428 rfl rfl, in_t 429 rfl rfl⟩
abbrev md_X3_tell : Md_ := (cX3_tell, RX3, "tell", 2, (some .int), 1, 20, 0, 0)
set_option maxRecDepth 100000 in
theorem yl_X3_tell : hy_L yX3_tell md_X3_tell 1 := ⟨in_t 434 rfl rfl, in_t 8 rfl rfl, by decide +kernel⟩
set_option maxRecDepth 100000 in
theorem yv_X3_tell : hy_V yX3_tell 3 := ⟨RX3, TX3, 6, hc_3, in_t 432 rfl rfl, in_t 433 rfl rfl⟩
abbrev md_X3_isWell : Md_ := (cX3_isWell, RX3, "isWell", 1, (some .boolean), 0, 0, 0, 0)
set_option maxRecDepth 100000 in
theorem yl_X3_isWell : hy_L yX3_isWell md_X3_isWell 0 := ⟨in_t 439 rfl rfl, in_t 8 rfl rfl, by decide +kernel⟩
set_option maxRecDepth 100000 in
theorem yv_X3_isWell : hy_V yX3_isWell 3 := ⟨RX3, TX3, 6, hc_3, in_t 437 rfl rfl, in_t 438 rfl rfl⟩
abbrev md_X5_paper : Md_ := (cX5_paper, RX5, "paper", 7, (some .int), 2, 43, 0, 0)
set_option maxRecDepth 100000 in
theorem yl_X5_paper : hy_L yX5_paper md_X5_paper 3 := ⟨in_t 443 rfl rfl, in_t 1 rfl rfl, by decide +kernel⟩
set_option maxRecDepth 100000 in
theorem yv_X5_paper : hy_V yX5_paper 5 := ⟨RX5, TX5, 6, hc_5, in_t 441 rfl rfl, in_t 442 rfl rfl⟩
abbrev md_X5_job : Md_ := (cX5_job, RX5, "job", 3, (some .int), 5, 115, 0, 0)
set_option maxRecDepth 100000 in
theorem yl_X5_job : hy_L yX5_job md_X5_job 2 := ⟨in_t 449 rfl rfl, in_t 1 rfl rfl, by decide +kernel⟩
set_option maxRecDepth 100000 in
theorem yv_X5_job : hy_V yX5_job 5 := ⟨RX5, TX5, 6, hc_5, in_t 447 rfl rfl, in_t 448 rfl rfl⟩
abbrev md_X1_add : Md_ := (cX1_add, RX1, "add", 3, (some .int), 4, 93, 0, 0)
set_option maxRecDepth 100000 in
theorem yl_X1_add : hy_L yX1_add md_X1_add 2 := ⟨in_t 453 rfl rfl, in_t 2 rfl rfl, by decide +kernel⟩
set_option maxRecDepth 100000 in
theorem yv_X1_add : hy_V yX1_add 1 := ⟨RX1, TX1, 5, hc_1, in_t 451 rfl rfl, in_t 452 rfl rfl⟩
abbrev md_X1_plan : Md_ := (cX1_plan, RX1, "plan", 4, none, 3, 70, 0, 0)
set_option maxRecDepth 100000 in
theorem yl_X1_plan : hy_L yX1_plan md_X1_plan 0 := ⟨in_t 457 rfl rfl, in_t 2 rfl rfl, by decide +kernel⟩
set_option maxRecDepth 100000 in
theorem yv_X1_plan : hy_V yX1_plan 1 := ⟨RX1, TX1, 5, hc_1, in_t 456 rfl rfl, in_g 16 rfl rfl⟩
abbrev md_X1_nextOf : Md_ := (cX1_nextOf, RX1, "nextOf", 6, (some .int), 2, 45, 0, 0)
set_option maxRecDepth 100000 in
theorem yl_X1_nextOf : hy_L yX1_nextOf md_X1_nextOf 1 := ⟨in_t 461 rfl rfl, in_t 2 rfl rfl, by decide +kernel⟩
set_option maxRecDepth 100000 in
theorem yv_X1_nextOf : hy_V yX1_nextOf 1 := ⟨RX1, TX1, 5, hc_1, in_t 460 rfl rfl, in_g 17 rfl rfl⟩
abbrev md_X1_latenessWith : Md_ := (cX1_latenessWith, RX1, "latenessWith", 5, (some .int), 1, 21, 0, 0)
set_option maxRecDepth 100000 in
theorem yl_X1_latenessWith : hy_L yX1_latenessWith md_X1_latenessWith 2 := ⟨in_t 466 rfl rfl, in_t 2 rfl rfl, by decide +kernel⟩
set_option maxRecDepth 100000 in
theorem yv_X1_latenessWith : hy_V yX1_latenessWith 1 := ⟨RX1, TX1, 5, hc_1, in_t 465 rfl rfl, in_g 18 rfl rfl⟩
abbrev md_X5_clearJobs : Md_ := (cX5_clearJobs, RX5, "clearJobs", 1, (some .int), 5, 114, 0, 0)
set_option maxRecDepth 100000 in
theorem yl_X5_clearJobs : hy_L yX5_clearJobs md_X5_clearJobs 0 := ⟨in_t 471 rfl rfl, in_t 1 rfl rfl, by decide +kernel⟩
set_option maxRecDepth 100000 in
theorem yv_X5_clearJobs : hy_V yX5_clearJobs 5 := ⟨RX5, TX5, 6, hc_5, in_t 469 rfl rfl, in_t 470 rfl rfl⟩
abbrev md_X1_removeAll : Md_ := (cX1_removeAll, RX1, "removeAll", 2, (some .int), 4, 93, 0, 0)
set_option maxRecDepth 100000 in
theorem yl_X1_removeAll : hy_L yX1_removeAll md_X1_removeAll 0 := ⟨in_t 475 rfl rfl, in_t 2 rfl rfl, by decide +kernel⟩
set_option maxRecDepth 100000 in
theorem yv_X1_removeAll : hy_V yX1_removeAll 1 := ⟨RX1, TX1, 5, hc_1, in_t 473 rfl rfl, in_t 474 rfl rfl⟩
abbrev md_X5_lateness : Md_ := (cX5_lateness, RX5, "lateness", 1, (some .int), 1, 20, 0, 0)
set_option maxRecDepth 100000 in
theorem yl_X5_lateness : hy_L yX5_lateness md_X5_lateness 0 := ⟨in_t 479 rfl rfl, in_t 1 rfl rfl, by decide +kernel⟩
set_option maxRecDepth 100000 in
theorem yv_X5_lateness : hy_V yX5_lateness 5 := ⟨RX5, TX5, 6, hc_5, in_t 477 rfl rfl, in_t 478 rfl rfl⟩
abbrev md_X1_leastLateness : Md_ := (cX1_leastLateness, RX1, "leastLateness", 1, (some .int), 0, 0, 0, 0)
set_option maxRecDepth 100000 in
theorem yl_X1_leastLateness : hy_L yX1_leastLateness md_X1_leastLateness 0 := ⟨in_t 483 rfl rfl, in_t 2 rfl rfl, by decide +kernel⟩
set_option maxRecDepth 100000 in
theorem yv_X1_leastLateness : hy_V yX1_leastLateness 1 := ⟨RX1, TX1, 5, hc_1, in_t 481 rfl rfl, in_t 482 rfl rfl⟩
abbrev md_X5_order : Md_ := (cX5_order, RX5, "order", 2, (some .int), 1, 22, 0, 0)
set_option maxRecDepth 100000 in
theorem yl_X5_order : hy_L yX5_order md_X5_order 1 := ⟨in_t 487 rfl rfl, in_t 1 rfl rfl, by decide +kernel⟩
set_option maxRecDepth 100000 in
theorem yv_X5_order : hy_V yX5_order 5 := ⟨RX5, TX5, 6, hc_5, in_t 485 rfl rfl, in_t 486 rfl rfl⟩
abbrev md_X5_count : Md_ := (cX5_count, RX5, "count", 2, (some .int), 2, 42, 0, 0)
set_option maxRecDepth 100000 in
theorem yl_X5_count : hy_L yX5_count md_X5_count 1 := ⟨in_t 491 rfl rfl, in_t 1 rfl rfl, by decide +kernel⟩
set_option maxRecDepth 100000 in
theorem yv_X5_count : hy_V yX5_count 5 := ⟨RX5, TX5, 6, hc_5, in_t 489 rfl rfl, in_t 490 rfl rfl⟩
abbrev md_X5_runsInDoubt : Md_ := (cX5_runsInDoubt, RX5, "runsInDoubt", 3, (some .int), 0, 0, 0, 0)
set_option maxRecDepth 100000 in
theorem yl_X5_runsInDoubt : hy_L yX5_runsInDoubt md_X5_runsInDoubt 0 := ⟨in_t 495 rfl rfl, in_t 1 rfl rfl, by decide +kernel⟩
set_option maxRecDepth 100000 in
theorem yv_X5_runsInDoubt : hy_V yX5_runsInDoubt 5 := ⟨RX5, TX5, 6, hc_5, in_t 494 rfl rfl, in_g 19 rfl rfl⟩
abbrev md_X5_digest : Md_ := (cX5_digest, RX5, "digest", 4, (some .long), 4, 89, 0, 0)
set_option maxRecDepth 100000 in
theorem yl_X5_digest : hy_L yX5_digest md_X5_digest 0 := ⟨in_t 499 rfl rfl, in_t 1 rfl rfl, by decide +kernel⟩
set_option maxRecDepth 100000 in
theorem yv_X5_digest : hy_V yX5_digest 5 := ⟨RX5, TX5, 6, hc_5, in_t 497 rfl rfl, in_t 498 rfl rfl⟩
abbrev md_X2_digestFrom : Md_ := (cX2_digestFrom, RX2, "digestFrom", 7, (some .long), 3, 63, 0, 0)
set_option maxRecDepth 100000 in
theorem yl_X2_digestFrom : hy_L yX2_digestFrom md_X2_digestFrom 1 := ⟨in_t 506 rfl rfl, in_t 5 rfl rfl, by decide +kernel⟩
set_option maxRecDepth 100000 in
theorem yv_X2_digestFrom : hy_V yX2_digestFrom 2 := ⟨RX2, TX2, 10, hc_2, in_t 504 rfl rfl, in_t 505 rfl rfl⟩
abbrev md_X0_digestFrom : Md_ := (cX0_digestFrom, RX0, "digestFrom", 6, (some .long), 2, 43, 0, 0)
set_option maxRecDepth 100000 in
theorem yl_X0_digestFrom : hy_L yX0_digestFrom md_X0_digestFrom 1 := ⟨in_t 512 rfl rfl, in_t 3 rfl rfl, by decide +kernel⟩
set_option maxRecDepth 100000 in
theorem yv_X0_digestFrom : hy_V yX0_digestFrom 0 := ⟨RX0, TX0, 13, hc_0, in_t 510 rfl rfl, in_t 511 rfl rfl⟩
abbrev md_X3_digestFrom : Md_ := (cX3_digestFrom, RX3, "digestFrom", 6, (some .long), 2, 41, 0, 0)
set_option maxRecDepth 100000 in
theorem yl_X3_digestFrom : hy_L yX3_digestFrom md_X3_digestFrom 1 := ⟨in_t 518 rfl rfl, in_t 8 rfl rfl, by decide +kernel⟩
set_option maxRecDepth 100000 in
theorem yv_X3_digestFrom : hy_V yX3_digestFrom 3 := ⟨RX3, TX3, 6, hc_3, in_t 516 rfl rfl, in_t 517 rfl rfl⟩
abbrev md_X6_part : Md_ := (cX6_part, RX6, "part", 11, (some .int), 1, 22, 0, 0)
set_option maxRecDepth 100000 in
theorem yl_X6_part : hy_L yX6_part md_X6_part 6 := ⟨in_t 524 rfl rfl, in_t 4 rfl rfl, by decide +kernel⟩
set_option maxRecDepth 100000 in
theorem yv_X6_part : hy_V yX6_part 6 := ⟨RX6, TX6, 39, hc_6, in_t 522 rfl rfl, in_t 523 rfl rfl⟩
abbrev md_X6_in : Md_ := (cX6_in, RX6, "in", 3, (some .boolean), 0, 0, 0, 0)
set_option maxRecDepth 100000 in
theorem yl_X6_in : hy_L yX6_in md_X6_in 3 := ⟨in_t 527 rfl rfl, in_t 4 rfl rfl, by decide +kernel⟩
set_option maxRecDepth 100000 in
theorem ys_X6_in : Cond.static yX6_in ∈ gtbl := in_t 526 rfl rfl
abbrev md_X6_step : Md_ := (cX6_step, RX6, "step", 5, (some .int), 3, 76, 0, 0)
set_option maxRecDepth 100000 in
theorem yl_X6_step : hy_L yX6_step md_X6_step 3 := ⟨in_t 531 rfl rfl, in_t 4 rfl rfl, by decide +kernel⟩
set_option maxRecDepth 100000 in
theorem yv_X6_step : hy_V yX6_step 6 := ⟨RX6, TX6, 39, hc_6, in_t 529 rfl rfl, in_t 530 rfl rfl⟩
abbrev md_X6_isPart : Md_ := (cX6_isPart, RX6, "isPart", 2, (some .boolean), 1, 22, 0, 0)
set_option maxRecDepth 100000 in
theorem yl_X6_isPart : hy_L yX6_isPart md_X6_isPart 1 := ⟨in_t 536 rfl rfl, in_t 4 rfl rfl, by decide +kernel⟩
set_option maxRecDepth 100000 in
theorem yv_X6_isPart : hy_V yX6_isPart 6 := ⟨RX6, TX6, 39, hc_6, in_t 534 rfl rfl, in_g 20 rfl rfl⟩
abbrev md_X6_steps : Md_ := (cX6_steps, RX6, "steps", 6, none, 2, 51, 0, 0)
set_option maxRecDepth 100000 in
theorem yl_X6_steps : hy_L yX6_steps md_X6_steps 2 := ⟨in_t 540 rfl rfl, in_t 4 rfl rfl, by decide +kernel⟩
set_option maxRecDepth 100000 in
theorem yv_X6_steps : hy_V yX6_steps 6 := ⟨RX6, TX6, 39, hc_6, in_t 539 rfl rfl, in_g 21 rfl rfl⟩
abbrev md_X6_change : Md_ := (cX6_change, RX6, "change", 7, none, 1, 25, 0, 0)
set_option maxRecDepth 100000 in
theorem yl_X6_change : hy_L yX6_change md_X6_change 2 := ⟨in_t 544 rfl rfl, in_t 4 rfl rfl, by decide +kernel⟩
set_option maxRecDepth 100000 in
theorem yv_X6_change : hy_V yX6_change 6 := ⟨RX6, TX6, 39, hc_6, in_t 543 rfl rfl, in_g 22 rfl rfl⟩
abbrev md_X6_turn : Md_ := (cX6_turn, RX6, "turn", 6, (some .int), 0, 0, 0, 0)
set_option maxRecDepth 100000 in
theorem yl_X6_turn : hy_L yX6_turn md_X6_turn 4 := ⟨in_t 548 rfl rfl, in_t 4 rfl rfl, by decide +kernel⟩
set_option maxRecDepth 100000 in
theorem yv_X6_turn : hy_V yX6_turn 6 := ⟨RX6, TX6, 39, hc_6, in_t 547 rfl rfl, in_g 23 rfl rfl⟩
abbrev md_X6_innermost : Md_ := (cX6_innermost, RX6, "innermost", 2, (some .int), 0, 0, 0, 0)
set_option maxRecDepth 100000 in
theorem yl_X6_innermost : hy_L yX6_innermost md_X6_innermost 1 := ⟨in_t 552 rfl rfl, in_t 4 rfl rfl, by decide +kernel⟩
set_option maxRecDepth 100000 in
theorem yv_X6_innermost : hy_V yX6_innermost 6 := ⟨RX6, TX6, 39, hc_6, in_t 551 rfl rfl, in_g 24 rfl rfl⟩
abbrev md_X6_shell : Md_ := (cX6_shell, RX6, "shell", 5, (some .int), 2, 43, 0, 0)
set_option maxRecDepth 100000 in
theorem yl_X6_shell : hy_L yX6_shell md_X6_shell 3 := ⟨in_t 556 rfl rfl, in_t 4 rfl rfl, by decide +kernel⟩
set_option maxRecDepth 100000 in
theorem yv_X6_shell : hy_V yX6_shell 6 := ⟨RX6, TX6, 39, hc_6, in_t 554 rfl rfl, in_t 555 rfl rfl⟩
abbrev md_X6_hardness : Md_ := (cX6_hardness, RX6, "hardness", 4, (some .int), 0, 0, 0, 0)
set_option maxRecDepth 100000 in
theorem yl_X6_hardness : hy_L yX6_hardness md_X6_hardness 1 := ⟨in_t 561 rfl rfl, in_t 4 rfl rfl, by decide +kernel⟩
set_option maxRecDepth 100000 in
theorem yv_X6_hardness : hy_V yX6_hardness 6 := ⟨RX6, TX6, 39, hc_6, in_t 560 rfl rfl, in_g 25 rfl rfl⟩
abbrev md_X6_taken : Md_ := (cX6_taken, RX6, "taken", 2, (some .long), 2, 43, 0, 0)
set_option maxRecDepth 100000 in
theorem yl_X6_taken : hy_L yX6_taken md_X6_taken 1 := ⟨in_t 565 rfl rfl, in_t 4 rfl rfl, by decide +kernel⟩
set_option maxRecDepth 100000 in
theorem yv_X6_taken : hy_V yX6_taken 6 := ⟨RX6, TX6, 39, hc_6, in_t 563 rfl rfl, in_t 564 rfl rfl⟩
abbrev md_X6_kept : Md_ := (cX6_kept, RX6, "kept", 5, (some .long), 2, 43, 0, 0)
set_option maxRecDepth 100000 in
theorem yl_X6_kept : hy_L yX6_kept md_X6_kept 1 := ⟨in_t 570 rfl rfl, in_t 4 rfl rfl, by decide +kernel⟩
set_option maxRecDepth 100000 in
theorem yv_X6_kept : hy_V yX6_kept 6 := ⟨RX6, TX6, 39, hc_6, in_t 568 rfl rfl, in_t 569 rfl rfl⟩
abbrev md_X6_init : Md_ := (cX6_init, RX6, "<init>", 2, none, 1, 20, 34, 1500)
set_option maxRecDepth 100000 in
theorem yl_X6_init : hy_L yX6_init md_X6_init 0 := ⟨in_t 574 rfl rfl, in_t 4 rfl rfl, by decide +kernel⟩
set_option maxRecDepth 100000 in
theorem yi_X6_init : Cond.instanceMethod yX6_init ∈ gtbl := in_t 573 rfl rfl
abbrev md_X6_line : Md_ := (cX6_line, RX6, "line", 6, (some .int), 2, 42, 0, 0)
set_option maxRecDepth 100000 in
theorem yl_X6_line : hy_L yX6_line md_X6_line 4 := ⟨in_t 698 rfl rfl, in_t 4 rfl rfl, by decide +kernel⟩
set_option maxRecDepth 100000 in
theorem yv_X6_line : hy_V yX6_line 6 := ⟨RX6, TX6, 39, hc_6, in_t 696 rfl rfl, in_t 697 rfl rfl⟩
abbrev md_X6_isFurnace : Md_ := (cX6_isFurnace, RX6, "isFurnace", 1, (some .boolean), 1, 22, 0, 0)
set_option maxRecDepth 100000 in
theorem yl_X6_isFurnace : hy_L yX6_isFurnace md_X6_isFurnace 1 := ⟨in_t 701 rfl rfl, in_t 4 rfl rfl, by decide +kernel⟩
set_option maxRecDepth 100000 in
theorem ys_X6_isFurnace : Cond.static yX6_isFurnace ∈ gtbl := in_t 700 rfl rfl
abbrev md_X6_clear : Md_ := (cX6_clear, RX6, "clear", 3, (some .int), 2, 42, 0, 0)
set_option maxRecDepth 100000 in
theorem yl_X6_clear : hy_L yX6_clear md_X6_clear 1 := ⟨in_t 705 rfl rfl, in_t 4 rfl rfl, by decide +kernel⟩
set_option maxRecDepth 100000 in
theorem yv_X6_clear : hy_V yX6_clear 6 := ⟨RX6, TX6, 39, hc_6, in_t 703 rfl rfl, in_t 704 rfl rfl⟩
abbrev md_X6_load : Md_ := (cX6_load, RX6, "load", 5, (some .int), 2, 43, 0, 0)
set_option maxRecDepth 100000 in
theorem yl_X6_load : hy_L yX6_load md_X6_load 3 := ⟨in_t 709 rfl rfl, in_t 4 rfl rfl, by decide +kernel⟩
set_option maxRecDepth 100000 in
theorem yv_X6_load : hy_V yX6_load 6 := ⟨RX6, TX6, 39, hc_6, in_t 707 rfl rfl, in_t 708 rfl rfl⟩
abbrev md_X6_isPlace : Md_ := (cX6_isPlace, RX6, "isPlace", 1, (some .boolean), 1, 22, 0, 0)
set_option maxRecDepth 100000 in
theorem yl_X6_isPlace : hy_L yX6_isPlace md_X6_isPlace 1 := ⟨in_t 712 rfl rfl, in_t 4 rfl rfl, by decide +kernel⟩
set_option maxRecDepth 100000 in
theorem ys_X6_isPlace : Cond.static yX6_isPlace ∈ gtbl := in_t 711 rfl rfl
abbrev md_X6_massOf : Md_ := (cX6_massOf, RX6, "massOf", 4, (some .int), 0, 0, 0, 0)
set_option maxRecDepth 100000 in
theorem yl_X6_massOf : hy_L yX6_massOf md_X6_massOf 1 := ⟨in_t 716 rfl rfl, in_t 4 rfl rfl, by decide +kernel⟩
set_option maxRecDepth 100000 in
theorem yv_X6_massOf : hy_V yX6_massOf 6 := ⟨RX6, TX6, 39, hc_6, in_t 715 rfl rfl, in_g 26 rfl rfl⟩
abbrev md_X6_unload : Md_ := (cX6_unload, RX6, "unload", 4, (some .int), 2, 42, 0, 0)
set_option maxRecDepth 100000 in
theorem yl_X6_unload : hy_L yX6_unload md_X6_unload 2 := ⟨in_t 720 rfl rfl, in_t 4 rfl rfl, by decide +kernel⟩
set_option maxRecDepth 100000 in
theorem yv_X6_unload : hy_V yX6_unload 6 := ⟨RX6, TX6, 39, hc_6, in_t 718 rfl rfl, in_t 719 rfl rfl⟩
abbrev md_X6_probe : Md_ := (cX6_probe, RX6, "probe", 5, (some .int), 2, 42, 0, 0)
set_option maxRecDepth 100000 in
theorem yl_X6_probe : hy_L yX6_probe md_X6_probe 4 := ⟨in_t 724 rfl rfl, in_t 4 rfl rfl, by decide +kernel⟩
set_option maxRecDepth 100000 in
theorem yv_X6_probe : hy_V yX6_probe 6 := ⟨RX6, TX6, 39, hc_6, in_t 722 rfl rfl, in_t 723 rfl rfl⟩
abbrev md_X6_run : Md_ := (cX6_run, RX6, "run", 3, (some .int), 2, 42, 0, 0)
set_option maxRecDepth 100000 in
theorem yl_X6_run : hy_L yX6_run md_X6_run 1 := ⟨in_t 728 rfl rfl, in_t 4 rfl rfl, by decide +kernel⟩
set_option maxRecDepth 100000 in
theorem yv_X6_run : hy_V yX6_run 6 := ⟨RX6, TX6, 39, hc_6, in_t 726 rfl rfl, in_t 727 rfl rfl⟩
abbrev md_X6_loadOf : Md_ := (cX6_loadOf, RX6, "loadOf", 4, (some .int), 0, 0, 0, 0)
set_option maxRecDepth 100000 in
theorem yl_X6_loadOf : hy_L yX6_loadOf md_X6_loadOf 1 := ⟨in_t 732 rfl rfl, in_t 4 rfl rfl, by decide +kernel⟩
set_option maxRecDepth 100000 in
theorem yv_X6_loadOf : hy_V yX6_loadOf 6 := ⟨RX6, TX6, 39, hc_6, in_t 731 rfl rfl, in_g 27 rfl rfl⟩
abbrev md_X6_tick : Md_ := (cX6_tick, RX6, "tick", 4, (some .int), 4, 103, 0, 0)
set_option maxRecDepth 100000 in
theorem yl_X6_tick : hy_L yX6_tick md_X6_tick 1 := ⟨in_t 736 rfl rfl, in_t 4 rfl rfl, by decide +kernel⟩
set_option maxRecDepth 100000 in
theorem yv_X6_tick : hy_V yX6_tick 6 := ⟨RX6, TX6, 39, hc_6, in_t 734 rfl rfl, in_t 735 rfl rfl⟩
abbrev md_X6_ticks : Md_ := (cX6_ticks, RX6, "ticks", 8, none, 3, 76, 0, 0)
set_option maxRecDepth 100000 in
theorem yl_X6_ticks : hy_L yX6_ticks md_X6_ticks 1 := ⟨in_t 740 rfl rfl, in_t 4 rfl rfl, by decide +kernel⟩
set_option maxRecDepth 100000 in
theorem yv_X6_ticks : hy_V yX6_ticks 6 := ⟨RX6, TX6, 39, hc_6, in_t 739 rfl rfl, in_g 28 rfl rfl⟩
abbrev md_X6_liveAt : Md_ := (cX6_liveAt, RX6, "liveAt", 6, (some .int), 1, 21, 0, 0)
set_option maxRecDepth 100000 in
theorem yl_X6_liveAt : hy_L yX6_liveAt md_X6_liveAt 2 := ⟨in_t 744 rfl rfl, in_t 4 rfl rfl, by decide +kernel⟩
set_option maxRecDepth 100000 in
theorem yv_X6_liveAt : hy_V yX6_liveAt 6 := ⟨RX6, TX6, 39, hc_6, in_t 743 rfl rfl, in_g 29 rfl rfl⟩
abbrev md_X6_running : Md_ := (cX6_running, RX6, "running", 3, (some .int), 0, 0, 0, 0)
set_option maxRecDepth 100000 in
theorem yl_X6_running : hy_L yX6_running md_X6_running 0 := ⟨in_t 748 rfl rfl, in_t 4 rfl rfl, by decide +kernel⟩
set_option maxRecDepth 100000 in
theorem yv_X6_running : hy_V yX6_running 6 := ⟨RX6, TX6, 39, hc_6, in_t 747 rfl rfl, in_g 30 rfl rfl⟩
abbrev md_X6_stop : Md_ := (cX6_stop, RX6, "stop", 2, (some .int), 2, 42, 0, 0)
set_option maxRecDepth 100000 in
theorem yl_X6_stop : hy_L yX6_stop md_X6_stop 1 := ⟨in_t 752 rfl rfl, in_t 4 rfl rfl, by decide +kernel⟩
set_option maxRecDepth 100000 in
theorem yv_X6_stop : hy_V yX6_stop 6 := ⟨RX6, TX6, 39, hc_6, in_t 750 rfl rfl, in_t 751 rfl rfl⟩
abbrev md_X6_survey : Md_ := (cX6_survey, RX6, "survey", 5, (some .int), 2, 42, 0, 0)
set_option maxRecDepth 100000 in
theorem yl_X6_survey : hy_L yX6_survey md_X6_survey 2 := ⟨in_t 756 rfl rfl, in_t 4 rfl rfl, by decide +kernel⟩
set_option maxRecDepth 100000 in
theorem yv_X6_survey : hy_V yX6_survey 6 := ⟨RX6, TX6, 39, hc_6, in_t 754 rfl rfl, in_t 755 rfl rfl⟩
abbrev md_X6_about : Md_ := (cX6_about, RX6, "about", 3, (some .int), 2, 42, 0, 0)
set_option maxRecDepth 100000 in
theorem yl_X6_about : hy_L yX6_about md_X6_about 2 := ⟨in_t 760 rfl rfl, in_t 4 rfl rfl, by decide +kernel⟩
set_option maxRecDepth 100000 in
theorem yv_X6_about : hy_V yX6_about 6 := ⟨RX6, TX6, 39, hc_6, in_t 758 rfl rfl, in_t 759 rfl rfl⟩
abbrev md_X6_runAt : Md_ := (cX6_runAt, RX6, "runAt", 3, (some .int), 1, 22, 0, 0)
set_option maxRecDepth 100000 in
theorem yl_X6_runAt : hy_L yX6_runAt md_X6_runAt 2 := ⟨in_t 764 rfl rfl, in_t 4 rfl rfl, by decide +kernel⟩
set_option maxRecDepth 100000 in
theorem yv_X6_runAt : hy_V yX6_runAt 6 := ⟨RX6, TX6, 39, hc_6, in_t 762 rfl rfl, in_t 763 rfl rfl⟩
abbrev md_X6_isWell : Md_ := (cX6_isWell, RX6, "isWell", 2, (some .boolean), 0, 0, 0, 0)
set_option maxRecDepth 100000 in
theorem yl_X6_isWell : hy_L yX6_isWell md_X6_isWell 1 := ⟨in_t 768 rfl rfl, in_t 4 rfl rfl, by decide +kernel⟩
set_option maxRecDepth 100000 in
theorem yv_X6_isWell : hy_V yX6_isWell 6 := ⟨RX6, TX6, 39, hc_6, in_t 767 rfl rfl, in_g 31 rfl rfl⟩
abbrev md_X6_paper : Md_ := (cX6_paper, RX6, "paper", 5, (some .int), 2, 43, 0, 0)
set_option maxRecDepth 100000 in
theorem yl_X6_paper : hy_L yX6_paper md_X6_paper 3 := ⟨in_t 772 rfl rfl, in_t 4 rfl rfl, by decide +kernel⟩
set_option maxRecDepth 100000 in
theorem yv_X6_paper : hy_V yX6_paper 6 := ⟨RX6, TX6, 39, hc_6, in_t 770 rfl rfl, in_t 771 rfl rfl⟩
abbrev md_X6_job : Md_ := (cX6_job, RX6, "job", 3, (some .int), 1, 22, 0, 0)
set_option maxRecDepth 100000 in
theorem yl_X6_job : hy_L yX6_job md_X6_job 2 := ⟨in_t 776 rfl rfl, in_t 4 rfl rfl, by decide +kernel⟩
set_option maxRecDepth 100000 in
theorem yv_X6_job : hy_V yX6_job 6 := ⟨RX6, TX6, 39, hc_6, in_t 774 rfl rfl, in_t 775 rfl rfl⟩
abbrev md_X6_clearJobs : Md_ := (cX6_clearJobs, RX6, "clearJobs", 2, (some .int), 0, 0, 0, 0)
set_option maxRecDepth 100000 in
theorem yl_X6_clearJobs : hy_L yX6_clearJobs md_X6_clearJobs 0 := ⟨in_t 780 rfl rfl, in_t 4 rfl rfl, by decide +kernel⟩
set_option maxRecDepth 100000 in
theorem yv_X6_clearJobs : hy_V yX6_clearJobs 6 := ⟨RX6, TX6, 39, hc_6, in_t 778 rfl rfl, in_t 779 rfl rfl⟩
abbrev md_X6_lateness : Md_ := (cX6_lateness, RX6, "lateness", 1, (some .int), 2, 48, 0, 0)
set_option maxRecDepth 100000 in
theorem yl_X6_lateness : hy_L yX6_lateness md_X6_lateness 0 := ⟨in_t 784 rfl rfl, in_t 4 rfl rfl, by decide +kernel⟩
set_option maxRecDepth 100000 in
theorem yv_X6_lateness : hy_V yX6_lateness 6 := ⟨RX6, TX6, 39, hc_6, in_t 782 rfl rfl, in_t 783 rfl rfl⟩
abbrev md_X6_weigh : Md_ := (cX6_weigh, RX6, "weigh", 5, none, 1, 24, 0, 0)
set_option maxRecDepth 100000 in
theorem yl_X6_weigh : hy_L yX6_weigh md_X6_weigh 0 := ⟨in_t 788 rfl rfl, in_t 4 rfl rfl, by decide +kernel⟩
set_option maxRecDepth 100000 in
theorem yv_X6_weigh : hy_V yX6_weigh 6 := ⟨RX6, TX6, 39, hc_6, in_t 787 rfl rfl, in_g 32 rfl rfl⟩
abbrev md_X6_lateBy : Md_ := (cX6_lateBy, RX6, "lateBy", 5, (some .int), 0, 0, 0, 0)
set_option maxRecDepth 100000 in
theorem yl_X6_lateBy : hy_L yX6_lateBy md_X6_lateBy 2 := ⟨in_t 793 rfl rfl, in_t 4 rfl rfl, by decide +kernel⟩
set_option maxRecDepth 100000 in
theorem yv_X6_lateBy : hy_V yX6_lateBy 6 := ⟨RX6, TX6, 39, hc_6, in_t 792 rfl rfl, in_g 33 rfl rfl⟩
abbrev md_X6_order : Md_ := (cX6_order, RX6, "order", 5, (some .int), 2, 48, 0, 0)
set_option maxRecDepth 100000 in
theorem yl_X6_order : hy_L yX6_order md_X6_order 1 := ⟨in_t 797 rfl rfl, in_t 4 rfl rfl, by decide +kernel⟩
set_option maxRecDepth 100000 in
theorem yv_X6_order : hy_V yX6_order 6 := ⟨RX6, TX6, 39, hc_6, in_t 795 rfl rfl, in_t 796 rfl rfl⟩
abbrev md_X6_count : Md_ := (cX6_count, RX6, "count", 4, (some .int), 1, 22, 0, 0)
set_option maxRecDepth 100000 in
theorem yl_X6_count : hy_L yX6_count md_X6_count 1 := ⟨in_t 801 rfl rfl, in_t 4 rfl rfl, by decide +kernel⟩
set_option maxRecDepth 100000 in
theorem yv_X6_count : hy_V yX6_count 6 := ⟨RX6, TX6, 39, hc_6, in_t 799 rfl rfl, in_t 800 rfl rfl⟩
abbrev md_X6_digest : Md_ := (cX6_digest, RX6, "digest", 6, (some .long), 3, 67, 0, 0)
set_option maxRecDepth 100000 in
theorem yl_X6_digest : hy_L yX6_digest md_X6_digest 0 := ⟨in_t 805 rfl rfl, in_t 4 rfl rfl, by decide +kernel⟩
set_option maxRecDepth 100000 in
theorem yv_X6_digest : hy_V yX6_digest 6 := ⟨RX6, TX6, 39, hc_6, in_t 803 rfl rfl, in_t 804 rfl rfl⟩
abbrev md_L_law : Md_ := (cL_law, RL, "law", 4, (some .boolean), 8, 278, 600000, 7302250)
