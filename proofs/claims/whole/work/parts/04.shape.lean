theorem in_X0 : ∀ w ∈ u_ws RX0 TX0 5, w ∈ cw := by
  intro w hw
  obtain ⟨k, hk, rfl⟩ := List.mem_map.mp hw
  have hk := List.mem_range.mp hk
  rcases (show k = 0 ∨ k = 1 ∨ k = 2 ∨ k = 3 ∨ k = 4 by omega) with rfl | rfl | rfl | rfl | rfl
  · exact cw_1 79 rfl rfl
  · exact cw_1 81 rfl rfl
  · exact cw_1 83 rfl rfl
  · exact cw_1 85 rfl rfl
  · exact cw_1 87 rfl rfl
theorem gs_X0_0 : k_fst 0 0 .int := ⟨RX0, TX0, 5, tyX0, rfl, tyX0_ok, nmX0, rfl, rfl⟩
theorem in_X1 : ∀ w ∈ u_ws RX1 TX1 2, w ∈ cw := by
  intro w hw
  obtain ⟨k, hk, rfl⟩ := List.mem_map.mp hw
  have hk := List.mem_range.mp hk
  rcases (show k = 0 ∨ k = 1 by omega) with rfl | rfl
  · exact cw_1 130 rfl rfl
  · exact cw_1 132 rfl rfl
theorem gs_X1_0 : k_fst 1 0 .int := ⟨RX1, TX1, 2, tyX1, rfl, tyX1_ok, nmX1, rfl, rfl⟩
theorem in_X2 : ∀ w ∈ u_ws RX2 TX2 6, w ∈ cw := by
  intro w hw
  obtain ⟨k, hk, rfl⟩ := List.mem_map.mp hw
  have hk := List.mem_range.mp hk
  rcases (show k = 0 ∨ k = 1 ∨ k = 2 ∨ k = 3 ∨ k = 4 ∨ k = 5 by omega) with rfl | rfl | rfl | rfl | rfl | rfl
  · exact cw_1 48 rfl rfl
  · exact cw_1 50 rfl rfl
  · exact cw_1 52 rfl rfl
  · exact cw_1 54 rfl rfl
  · exact cw_1 56 rfl rfl
  · exact cw_1 58 rfl rfl
theorem gs_X2_0 : k_fst 2 0 .int := ⟨RX2, TX2, 6, tyX2, rfl, tyX2_ok, nmX2, rfl, rfl⟩
theorem gs_X2_1 : k_fst 2 1 .int := ⟨RX2, TX2, 6, tyX2, rfl, tyX2_ok, nmX2, rfl, rfl⟩
theorem in_X3 : ∀ w ∈ u_ws RX3 TX3 4, w ∈ cw := by
  intro w hw
  obtain ⟨k, hk, rfl⟩ := List.mem_map.mp hw
  have hk := List.mem_range.mp hk
  rcases (show k = 0 ∨ k = 1 ∨ k = 2 ∨ k = 3 by omega) with rfl | rfl | rfl | rfl
  · exact cw_1 101 rfl rfl
  · exact cw_1 103 rfl rfl
  · exact cw_1 105 rfl rfl
  · exact cw_1 107 rfl rfl
theorem gs_X3_0 : k_fst 3 0 .int := ⟨RX3, TX3, 4, tyX3, rfl, tyX3_ok, nmX3, rfl, rfl⟩
theorem in_X4 : ∀ w ∈ u_ws RX4 TX4 11, w ∈ cw := by
  intro w hw
  obtain ⟨k, hk, rfl⟩ := List.mem_map.mp hw
  have hk := List.mem_range.mp hk
  rcases (show k = 0 ∨ k = 1 ∨ k = 2 ∨ k = 3 ∨ k = 4 ∨ k = 5 ∨ k = 6 ∨ k = 7 ∨ k = 8 ∨ k = 9 ∨ k = 10 by omega) with rfl | rfl | rfl | rfl | rfl | rfl | rfl | rfl | rfl | rfl | rfl
  · exact cw_1 150 rfl rfl
  · exact cw_1 152 rfl rfl
  · exact cw_1 154 rfl rfl
  · exact cw_1 156 rfl rfl
  · exact cw_1 158 rfl rfl
  · exact cw_1 160 rfl rfl
  · exact cw_1 162 rfl rfl
  · exact cw_1 164 rfl rfl
  · exact cw_1 166 rfl rfl
  · exact cw_1 168 rfl rfl
  · exact cw_1 170 rfl rfl
theorem gs_X4_1 : k_fst 4 1 .int := ⟨RX4, TX4, 11, tyX4, rfl, tyX4_ok, nmX4, rfl, rfl⟩
theorem gs_X4_5 : k_fst 4 5 .int := ⟨RX4, TX4, 11, tyX4, rfl, tyX4_ok, nmX4, rfl, rfl⟩
theorem gs_X4_7 : k_fst 4 7 .int := ⟨RX4, TX4, 11, tyX4, rfl, tyX4_ok, nmX4, rfl, rfl⟩
theorem gs_X4_8 : k_fst 4 8 .long := ⟨RX4, TX4, 11, tyX4, rfl, tyX4_ok, nmX4, rfl, rfl⟩
theorem gs_X4_9 : k_fst 4 9 .int := ⟨RX4, TX4, 11, tyX4, rfl, tyX4_ok, nmX4, rfl, rfl⟩
theorem gs_X4_10 : k_fst 4 10 .int := ⟨RX4, TX4, 11, tyX4, rfl, tyX4_ok, nmX4, rfl, rfl⟩
theorem in_X5 : ∀ w ∈ u_ws RX5 TX5 4, w ∈ cw := by
  intro w hw
  obtain ⟨k, hk, rfl⟩ := List.mem_map.mp hw
  have hk := List.mem_range.mp hk
  rcases (show k = 0 ∨ k = 1 ∨ k = 2 ∨ k = 3 by omega) with rfl | rfl | rfl | rfl
  · exact cw_1 187 rfl rfl
  · exact cw_1 189 rfl rfl
  · exact cw_1 191 rfl rfl
  · exact cw_1 193 rfl rfl
theorem gs_X5_0 : k_fst 5 0 .boolean := ⟨RX5, TX5, 4, tyX5, rfl, tyX5_ok, nmX5, rfl, rfl⟩
theorem gs_X5_1 : k_fst 5 1 .int := ⟨RX5, TX5, 4, tyX5, rfl, tyX5_ok, nmX5, rfl, rfl⟩
theorem gs_X5_2 : k_fst 5 2 .int := ⟨RX5, TX5, 4, tyX5, rfl, tyX5_ok, nmX5, rfl, rfl⟩
theorem in_X7 : ∀ w ∈ u_ws RX7 TX7 7, w ∈ cw := by
  intro w hw
  obtain ⟨k, hk, rfl⟩ := List.mem_map.mp hw
  have hk := List.mem_range.mp hk
  rcases (show k = 0 ∨ k = 1 ∨ k = 2 ∨ k = 3 ∨ k = 4 ∨ k = 5 ∨ k = 6 by omega) with rfl | rfl | rfl | rfl | rfl | rfl | rfl
  · exact cw_1 203 rfl rfl
  · exact cw_1 205 rfl rfl
  · exact cw_1 207 rfl rfl
  · exact cw_1 209 rfl rfl
  · exact cw_1 211 rfl rfl
  · exact cw_1 213 rfl rfl
  · exact cw_1 215 rfl rfl
theorem gs_X7_5 : k_fst 6 5 .int := ⟨RX7, TX7, 7, tyX7, rfl, tyX7_ok, nmX7, rfl, rfl⟩
theorem gs_X7_6 : k_fst 6 6 .int := ⟨RX7, TX7, 7, tyX7, rfl, tyX7_ok, nmX7, rfl, rfl⟩
theorem in_X8 : ∀ w ∈ u_ws RX8 TX8 39, w ∈ cw := by
  intro w hw
  obtain ⟨k, hk, rfl⟩ := List.mem_map.mp hw
  have hk := List.mem_range.mp hk
  rcases (show k = 0 ∨ k = 1 ∨ k = 2 ∨ k = 3 ∨ k = 4 ∨ k = 5 ∨ k = 6 ∨ k = 7 ∨ k = 8 ∨ k = 9 ∨ k = 10 ∨ k = 11 ∨ k = 12 ∨ k = 13 ∨ k = 14 ∨ k = 15 ∨ k = 16 ∨ k = 17 ∨ k = 18 ∨ k = 19 ∨ k = 20 ∨ k = 21 ∨ k = 22 ∨ k = 23 ∨ k = 24 ∨ k = 25 ∨ k = 26 ∨ k = 27 ∨ k = 28 ∨ k = 29 ∨ k = 30 ∨ k = 31 ∨ k = 32 ∨ k = 33 ∨ k = 34 ∨ k = 35 ∨ k = 36 ∨ k = 37 ∨ k = 38 by omega) with rfl | rfl | rfl | rfl | rfl | rfl | rfl | rfl | rfl | rfl | rfl | rfl | rfl | rfl | rfl | rfl | rfl | rfl | rfl | rfl | rfl | rfl | rfl | rfl | rfl | rfl | rfl | rfl | rfl | rfl | rfl | rfl | rfl | rfl | rfl | rfl | rfl | rfl | rfl
  · exact cw_3 100 rfl rfl
  · exact cw_3 102 rfl rfl
  · exact cw_3 104 rfl rfl
  · exact cw_3 106 rfl rfl
  · exact cw_3 108 rfl rfl
  · exact cw_3 110 rfl rfl
  · exact cw_3 112 rfl rfl
  · exact cw_3 114 rfl rfl
  · exact cw_3 116 rfl rfl
  · exact cw_3 118 rfl rfl
  · exact cw_3 120 rfl rfl
  · exact cw_3 122 rfl rfl
  · exact cw_3 124 rfl rfl
  · exact cw_3 126 rfl rfl
  · exact cw_3 128 rfl rfl
  · exact cw_3 130 rfl rfl
  · exact cw_3 132 rfl rfl
  · exact cw_3 134 rfl rfl
  · exact cw_3 136 rfl rfl
  · exact cw_3 138 rfl rfl
  · exact cw_3 140 rfl rfl
  · exact cw_3 142 rfl rfl
  · exact cw_3 144 rfl rfl
  · exact cw_3 146 rfl rfl
  · exact cw_3 148 rfl rfl
  · exact cw_3 150 rfl rfl
  · exact cw_3 152 rfl rfl
  · exact cw_3 154 rfl rfl
  · exact cw_3 156 rfl rfl
  · exact cw_3 158 rfl rfl
  · exact cw_3 160 rfl rfl
  · exact cw_3 162 rfl rfl
  · exact cw_3 164 rfl rfl
  · exact cw_3 166 rfl rfl
  · exact cw_3 168 rfl rfl
  · exact cw_3 170 rfl rfl
  · exact cw_3 172 rfl rfl
  · exact cw_3 174 rfl rfl
  · exact cw_3 176 rfl rfl
theorem gs_X8_0 : k_fst 7 0 .int := ⟨RX8, TX8, 39, tyX8, rfl, tyX8_ok, nmX8, rfl, rfl⟩
theorem gs_X8_1 : k_fst 7 1 .int := ⟨RX8, TX8, 39, tyX8, rfl, tyX8_ok, nmX8, rfl, rfl⟩
theorem gs_X8_5 : k_fst 7 5 .int := ⟨RX8, TX8, 39, tyX8, rfl, tyX8_ok, nmX8, rfl, rfl⟩
theorem gs_X8_10 : k_fst 7 10 .int := ⟨RX8, TX8, 39, tyX8, rfl, tyX8_ok, nmX8, rfl, rfl⟩
theorem gs_X8_11 : k_fst 7 11 .int := ⟨RX8, TX8, 39, tyX8, rfl, tyX8_ok, nmX8, rfl, rfl⟩
theorem gs_X8_15 : k_fst 7 15 .int := ⟨RX8, TX8, 39, tyX8, rfl, tyX8_ok, nmX8, rfl, rfl⟩
theorem gs_X8_20 : k_fst 7 20 .int := ⟨RX8, TX8, 39, tyX8, rfl, tyX8_ok, nmX8, rfl, rfl⟩
theorem gs_X8_22 : k_fst 7 22 .int := ⟨RX8, TX8, 39, tyX8, rfl, tyX8_ok, nmX8, rfl, rfl⟩
theorem gs_X8_23 : k_fst 7 23 .int := ⟨RX8, TX8, 39, tyX8, rfl, tyX8_ok, nmX8, rfl, rfl⟩
theorem gs_X8_28 : k_fst 7 28 .int := ⟨RX8, TX8, 39, tyX8, rfl, tyX8_ok, nmX8, rfl, rfl⟩
theorem gs_X8_35 : k_fst 7 35 .int := ⟨RX8, TX8, 39, tyX8, rfl, tyX8_ok, nmX8, rfl, rfl⟩
theorem gf_X2_24 : k_fld RX2 24 2 0 := ⟨RX2, TX2, 6, rfl, in_X2, by decide, cw_1 28 rfl rfl⟩
theorem gf_X7_84 : k_fld RX7 84 2 0 := ⟨RX2, TX2, 6, rfl, in_X2, by decide, cw_1 29 rfl rfl⟩
theorem gf_X4_90 : k_fld RX4 90 2 0 := ⟨RX2, TX2, 6, rfl, in_X2, by decide, cw_1 30 rfl rfl⟩
theorem gf_X6_36 : k_fld RX6 36 2 0 := ⟨RX2, TX2, 6, rfl, in_X2, by decide, cw_1 31 rfl rfl⟩
theorem gf_X7_104 : k_fld RX7 104 2 1 := ⟨RX2, TX2, 6, rfl, in_X2, by decide, cw_1 32 rfl rfl⟩
theorem gf_X6_42 : k_fld RX6 42 2 1 := ⟨RX2, TX2, 6, rfl, in_X2, by decide, cw_1 33 rfl rfl⟩
theorem gf_X2_9 : k_fld RX2 9 2 2 := ⟨RX2, TX2, 6, rfl, in_X2, by decide, cw_1 34 rfl rfl⟩
theorem gf_X7_88 : k_fld RX7 88 2 2 := ⟨RX2, TX2, 6, rfl, in_X2, by decide, cw_1 35 rfl rfl⟩
theorem gf_X6_45 : k_fld RX6 45 2 2 := ⟨RX2, TX2, 6, rfl, in_X2, by decide, cw_1 36 rfl rfl⟩
theorem gf_X2_15 : k_fld RX2 15 2 3 := ⟨RX2, TX2, 6, rfl, in_X2, by decide, cw_1 37 rfl rfl⟩
theorem gf_X7_92 : k_fld RX7 92 2 3 := ⟨RX2, TX2, 6, rfl, in_X2, by decide, cw_1 38 rfl rfl⟩
theorem gf_X6_49 : k_fld RX6 49 2 3 := ⟨RX2, TX2, 6, rfl, in_X2, by decide, cw_1 39 rfl rfl⟩
theorem gf_X4_120 : k_fld RX4 120 2 3 := ⟨RX2, TX2, 6, rfl, in_X2, by decide, cw_1 40 rfl rfl⟩
theorem gf_X2_18 : k_fld RX2 18 2 4 := ⟨RX2, TX2, 6, rfl, in_X2, by decide, cw_1 41 rfl rfl⟩
theorem gf_X7_95 : k_fld RX7 95 2 4 := ⟨RX2, TX2, 6, rfl, in_X2, by decide, cw_1 42 rfl rfl⟩
theorem gf_X6_52 : k_fld RX6 52 2 4 := ⟨RX2, TX2, 6, rfl, in_X2, by decide, cw_1 43 rfl rfl⟩
theorem gf_X4_128 : k_fld RX4 128 2 4 := ⟨RX2, TX2, 6, rfl, in_X2, by decide, cw_1 44 rfl rfl⟩
theorem gf_X2_21 : k_fld RX2 21 2 5 := ⟨RX2, TX2, 6, rfl, in_X2, by decide, cw_1 45 rfl rfl⟩
theorem gf_X7_98 : k_fld RX7 98 2 5 := ⟨RX2, TX2, 6, rfl, in_X2, by decide, cw_1 46 rfl rfl⟩
theorem gf_X6_55 : k_fld RX6 55 2 5 := ⟨RX2, TX2, 6, rfl, in_X2, by decide, cw_1 47 rfl rfl⟩
theorem gf_X0_22 : k_fld RX0 22 0 0 := ⟨RX0, TX0, 5, rfl, in_X0, by decide, cw_1 68 rfl rfl⟩
theorem gf_X7_80 : k_fld RX7 80 0 0 := ⟨RX0, TX0, 5, rfl, in_X0, by decide, cw_1 69 rfl rfl⟩
theorem gf_X4_56 : k_fld RX4 56 0 0 := ⟨RX0, TX0, 5, rfl, in_X0, by decide, cw_1 70 rfl rfl⟩
theorem gf_X0_7 : k_fld RX0 7 0 1 := ⟨RX0, TX0, 5, rfl, in_X0, by decide, cw_1 71 rfl rfl⟩
theorem gf_X4_96 : k_fld RX4 96 0 1 := ⟨RX0, TX0, 5, rfl, in_X0, by decide, cw_1 72 rfl rfl⟩
theorem gf_X0_13 : k_fld RX0 13 0 2 := ⟨RX0, TX0, 5, rfl, in_X0, by decide, cw_1 73 rfl rfl⟩
theorem gf_X4_99 : k_fld RX4 99 0 2 := ⟨RX0, TX0, 5, rfl, in_X0, by decide, cw_1 74 rfl rfl⟩
theorem gf_X0_16 : k_fld RX0 16 0 3 := ⟨RX0, TX0, 5, rfl, in_X0, by decide, cw_1 75 rfl rfl⟩
theorem gf_X4_63 : k_fld RX4 63 0 3 := ⟨RX0, TX0, 5, rfl, in_X0, by decide, cw_1 76 rfl rfl⟩
theorem gf_X0_19 : k_fld RX0 19 0 4 := ⟨RX0, TX0, 5, rfl, in_X0, by decide, cw_1 77 rfl rfl⟩
theorem gf_X4_102 : k_fld RX4 102 0 4 := ⟨RX0, TX0, 5, rfl, in_X0, by decide, cw_1 78 rfl rfl⟩
theorem gf_X3_22 : k_fld RX3 22 3 0 := ⟨RX3, TX3, 4, rfl, in_X3, by decide, cw_1 96 rfl rfl⟩
theorem gf_X7_83 : k_fld RX7 83 3 0 := ⟨RX3, TX3, 4, rfl, in_X3, by decide, cw_1 97 rfl rfl⟩
theorem gf_X3_9 : k_fld RX3 9 3 1 := ⟨RX3, TX3, 4, rfl, in_X3, by decide, cw_1 98 rfl rfl⟩
theorem gf_X3_15 : k_fld RX3 15 3 2 := ⟨RX3, TX3, 4, rfl, in_X3, by decide, cw_1 99 rfl rfl⟩
theorem gf_X3_18 : k_fld RX3 18 3 3 := ⟨RX3, TX3, 4, rfl, in_X3, by decide, cw_1 100 rfl rfl⟩
theorem gf_X1_16 : k_fld RX1 16 1 0 := ⟨RX1, TX1, 2, rfl, in_X1, by decide, cw_1 125 rfl rfl⟩
theorem gf_X4_66 : k_fld RX4 66 1 0 := ⟨RX1, TX1, 2, rfl, in_X1, by decide, cw_1 126 rfl rfl⟩
theorem gf_X7_139 : k_fld RX7 139 1 0 := ⟨RX1, TX1, 2, rfl, in_X1, by decide, cw_1 127 rfl rfl⟩
theorem gf_X1_11 : k_fld RX1 11 1 1 := ⟨RX1, TX1, 2, rfl, in_X1, by decide, cw_1 128 rfl rfl⟩
theorem gf_X7_142 : k_fld RX7 142 1 1 := ⟨RX1, TX1, 2, rfl, in_X1, by decide, cw_1 129 rfl rfl⟩
theorem gf_X4_12 : k_fld RX4 12 4 0 := ⟨RX4, TX4, 11, rfl, in_X4, by decide, cw_1 137 rfl rfl⟩
theorem gf_X7_135 : k_fld RX7 135 4 0 := ⟨RX4, TX4, 11, rfl, in_X4, by decide, cw_1 138 rfl rfl⟩
theorem gf_X4_70 : k_fld RX4 70 4 1 := ⟨RX4, TX4, 11, rfl, in_X4, by decide, cw_1 139 rfl rfl⟩
theorem gf_X7_167 : k_fld RX7 167 4 1 := ⟨RX4, TX4, 11, rfl, in_X4, by decide, cw_1 140 rfl rfl⟩
theorem gf_X4_31 : k_fld RX4 31 4 2 := ⟨RX4, TX4, 11, rfl, in_X4, by decide, cw_1 141 rfl rfl⟩
theorem gf_X4_35 : k_fld RX4 35 4 3 := ⟨RX4, TX4, 11, rfl, in_X4, by decide, cw_1 142 rfl rfl⟩
theorem gf_X4_23 : k_fld RX4 23 4 4 := ⟨RX4, TX4, 11, rfl, in_X4, by decide, cw_1 143 rfl rfl⟩
theorem gf_X4_67 : k_fld RX4 67 4 5 := ⟨RX4, TX4, 11, rfl, in_X4, by decide, cw_1 144 rfl rfl⟩
theorem gf_X4_27 : k_fld RX4 27 4 6 := ⟨RX4, TX4, 11, rfl, in_X4, by decide, cw_1 145 rfl rfl⟩
theorem gf_X4_45 : k_fld RX4 45 4 7 := ⟨RX4, TX4, 11, rfl, in_X4, by decide, cw_1 146 rfl rfl⟩
theorem gf_X4_52 : k_fld RX4 52 4 8 := ⟨RX4, TX4, 11, rfl, in_X4, by decide, cw_1 147 rfl rfl⟩
theorem gf_X4_49 : k_fld RX4 49 4 9 := ⟨RX4, TX4, 11, rfl, in_X4, by decide, cw_1 148 rfl rfl⟩
theorem gf_X4_83 : k_fld RX4 83 4 10 := ⟨RX4, TX4, 11, rfl, in_X4, by decide, cw_1 149 rfl rfl⟩
theorem gf_X5_15 : k_fld RX5 15 5 0 := ⟨RX5, TX5, 4, rfl, in_X5, by decide, cw_1 180 rfl rfl⟩
theorem gf_X7_193 : k_fld RX7 193 5 0 := ⟨RX5, TX5, 4, rfl, in_X5, by decide, cw_1 181 rfl rfl⟩
theorem gf_X5_19 : k_fld RX5 19 5 1 := ⟨RX5, TX5, 4, rfl, in_X5, by decide, cw_1 182 rfl rfl⟩
theorem gf_X7_203 : k_fld RX7 203 5 1 := ⟨RX5, TX5, 4, rfl, in_X5, by decide, cw_1 183 rfl rfl⟩
theorem gf_X5_32 : k_fld RX5 32 5 2 := ⟨RX5, TX5, 4, rfl, in_X5, by decide, cw_1 184 rfl rfl⟩
theorem gf_X5_9 : k_fld RX5 9 5 3 := ⟨RX5, TX5, 4, rfl, in_X5, by decide, cw_1 185 rfl rfl⟩
theorem gf_X7_200 : k_fld RX7 200 5 3 := ⟨RX5, TX5, 4, rfl, in_X5, by decide, cw_1 186 rfl rfl⟩
theorem gf_X7_14 : k_fld RX7 14 6 0 := ⟨RX7, TX7, 7, rfl, in_X7, by decide, cw_1 196 rfl rfl⟩
theorem gf_X7_23 : k_fld RX7 23 6 1 := ⟨RX7, TX7, 7, rfl, in_X7, by decide, cw_1 197 rfl rfl⟩
theorem gf_X7_30 : k_fld RX7 30 6 2 := ⟨RX7, TX7, 7, rfl, in_X7, by decide, cw_1 198 rfl rfl⟩
theorem gf_X7_39 : k_fld RX7 39 6 3 := ⟨RX7, TX7, 7, rfl, in_X7, by decide, cw_1 199 rfl rfl⟩
theorem gf_X7_45 : k_fld RX7 45 6 4 := ⟨RX7, TX7, 7, rfl, in_X7, by decide, cw_1 200 rfl rfl⟩
theorem gf_X7_231 : k_fld RX7 231 6 5 := ⟨RX7, TX7, 7, rfl, in_X7, by decide, cw_1 201 rfl rfl⟩
theorem gf_X7_50 : k_fld RX7 50 6 6 := ⟨RX7, TX7, 7, rfl, in_X7, by decide, cw_1 202 rfl rfl⟩
theorem gf_X8_95 : k_fld RX8 95 7 0 := ⟨RX8, TX8, 39, rfl, in_X8, by decide, cw_3 61 rfl rfl⟩
theorem gf_X8_233 : k_fld RX8 233 7 1 := ⟨RX8, TX8, 39, rfl, in_X8, by decide, cw_3 62 rfl rfl⟩
theorem gf_X8_9 : k_fld RX8 9 7 2 := ⟨RX8, TX8, 39, rfl, in_X8, by decide, cw_3 63 rfl rfl⟩
theorem gf_X8_13 : k_fld RX8 13 7 3 := ⟨RX8, TX8, 39, rfl, in_X8, by decide, cw_3 64 rfl rfl⟩
theorem gf_X8_16 : k_fld RX8 16 7 4 := ⟨RX8, TX8, 39, rfl, in_X8, by decide, cw_3 65 rfl rfl⟩
theorem gf_X8_105 : k_fld RX8 105 7 5 := ⟨RX8, TX8, 39, rfl, in_X8, by decide, cw_3 66 rfl rfl⟩
theorem gf_X8_19 : k_fld RX8 19 7 6 := ⟨RX8, TX8, 39, rfl, in_X8, by decide, cw_3 67 rfl rfl⟩
theorem gf_X8_22 : k_fld RX8 22 7 7 := ⟨RX8, TX8, 39, rfl, in_X8, by decide, cw_3 68 rfl rfl⟩
theorem gf_X8_25 : k_fld RX8 25 7 8 := ⟨RX8, TX8, 39, rfl, in_X8, by decide, cw_3 69 rfl rfl⟩
theorem gf_X8_28 : k_fld RX8 28 7 9 := ⟨RX8, TX8, 39, rfl, in_X8, by decide, cw_3 70 rfl rfl⟩
theorem gf_X8_108 : k_fld RX8 108 7 10 := ⟨RX8, TX8, 39, rfl, in_X8, by decide, cw_3 71 rfl rfl⟩
theorem gf_X8_129 : k_fld RX8 129 7 11 := ⟨RX8, TX8, 39, rfl, in_X8, by decide, cw_3 72 rfl rfl⟩
theorem gf_X8_32 : k_fld RX8 32 7 12 := ⟨RX8, TX8, 39, rfl, in_X8, by decide, cw_3 73 rfl rfl⟩
theorem gf_X8_35 : k_fld RX8 35 7 13 := ⟨RX8, TX8, 39, rfl, in_X8, by decide, cw_3 74 rfl rfl⟩
theorem gf_X8_38 : k_fld RX8 38 7 14 := ⟨RX8, TX8, 39, rfl, in_X8, by decide, cw_3 75 rfl rfl⟩
theorem gf_X8_132 : k_fld RX8 132 7 15 := ⟨RX8, TX8, 39, rfl, in_X8, by decide, cw_3 76 rfl rfl⟩
theorem gf_X8_41 : k_fld RX8 41 7 16 := ⟨RX8, TX8, 39, rfl, in_X8, by decide, cw_3 77 rfl rfl⟩
theorem gf_X8_44 : k_fld RX8 44 7 17 := ⟨RX8, TX8, 39, rfl, in_X8, by decide, cw_3 78 rfl rfl⟩
theorem gf_X8_47 : k_fld RX8 47 7 18 := ⟨RX8, TX8, 39, rfl, in_X8, by decide, cw_3 79 rfl rfl⟩
theorem gf_X8_50 : k_fld RX8 50 7 19 := ⟨RX8, TX8, 39, rfl, in_X8, by decide, cw_3 80 rfl rfl⟩
theorem gf_X8_181 : k_fld RX8 181 7 20 := ⟨RX8, TX8, 39, rfl, in_X8, by decide, cw_3 81 rfl rfl⟩
theorem gf_X8_53 : k_fld RX8 53 7 21 := ⟨RX8, TX8, 39, rfl, in_X8, by decide, cw_3 82 rfl rfl⟩
theorem gf_X8_155 : k_fld RX8 155 7 22 := ⟨RX8, TX8, 39, rfl, in_X8, by decide, cw_3 83 rfl rfl⟩
theorem gf_X8_172 : k_fld RX8 172 7 23 := ⟨RX8, TX8, 39, rfl, in_X8, by decide, cw_3 84 rfl rfl⟩
theorem gf_X8_56 : k_fld RX8 56 7 24 := ⟨RX8, TX8, 39, rfl, in_X8, by decide, cw_3 85 rfl rfl⟩
theorem gf_X8_59 : k_fld RX8 59 7 25 := ⟨RX8, TX8, 39, rfl, in_X8, by decide, cw_3 86 rfl rfl⟩
theorem gf_X8_62 : k_fld RX8 62 7 26 := ⟨RX8, TX8, 39, rfl, in_X8, by decide, cw_3 87 rfl rfl⟩
theorem gf_X8_65 : k_fld RX8 65 7 27 := ⟨RX8, TX8, 39, rfl, in_X8, by decide, cw_3 88 rfl rfl⟩
theorem gf_X8_165 : k_fld RX8 165 7 28 := ⟨RX8, TX8, 39, rfl, in_X8, by decide, cw_3 89 rfl rfl⟩
theorem gf_X8_68 : k_fld RX8 68 7 29 := ⟨RX8, TX8, 39, rfl, in_X8, by decide, cw_3 90 rfl rfl⟩
theorem gf_X8_71 : k_fld RX8 71 7 30 := ⟨RX8, TX8, 39, rfl, in_X8, by decide, cw_3 91 rfl rfl⟩
theorem gf_X8_74 : k_fld RX8 74 7 31 := ⟨RX8, TX8, 39, rfl, in_X8, by decide, cw_3 92 rfl rfl⟩
theorem gf_X8_77 : k_fld RX8 77 7 32 := ⟨RX8, TX8, 39, rfl, in_X8, by decide, cw_3 93 rfl rfl⟩
theorem gf_X8_80 : k_fld RX8 80 7 33 := ⟨RX8, TX8, 39, rfl, in_X8, by decide, cw_3 94 rfl rfl⟩
theorem gf_X8_83 : k_fld RX8 83 7 34 := ⟨RX8, TX8, 39, rfl, in_X8, by decide, cw_3 95 rfl rfl⟩
theorem gf_X8_135 : k_fld RX8 135 7 35 := ⟨RX8, TX8, 39, rfl, in_X8, by decide, cw_3 96 rfl rfl⟩
theorem gf_X8_86 : k_fld RX8 86 7 36 := ⟨RX8, TX8, 39, rfl, in_X8, by decide, cw_3 97 rfl rfl⟩
theorem gf_X8_89 : k_fld RX8 89 7 37 := ⟨RX8, TX8, 39, rfl, in_X8, by decide, cw_3 98 rfl rfl⟩
theorem gf_X8_92 : k_fld RX8 92 7 38 := ⟨RX8, TX8, 39, rfl, in_X8, by decide, cw_3 99 rfl rfl⟩
theorem lk_L_13 : k_lkV RL 13 yX7_coast cX7_coast 8 (some .int) 4 := ⟨⟨cw_1 218 rfl rfl, cw_1 1 rfl rfl, cw_1 221 rfl rfl, by decide +kernel, by decide +kernel, by decide +kernel⟩, cw_1 219 rfl rfl, cw_1 220 rfl rfl⟩
theorem lk_X7_54 : k_lkV RX7 54 yX7_sheetOf cX7_sheetOf 2 (some (.object "DuelSeconds$Sheet")) 1 := ⟨⟨cw_1 222 rfl rfl, cw_1 1 rfl rfl, cw_1 225 rfl rfl, by decide +kernel, by decide +kernel, by decide +kernel⟩, cw_1 224 rfl rfl, cw_0 0 rfl rfl⟩
theorem lk_X7_58 : k_lkS RX7 58 yX7_isLane cX7_isLane 1 (some .boolean) 1 := ⟨⟨cw_1 226 rfl rfl, cw_1 1 rfl rfl, cw_1 228 rfl rfl, by decide +kernel, by decide +kernel, by decide +kernel⟩, cw_1 227 rfl rfl⟩
theorem lk_X7_62 : k_lkV RX7 62 yX5_faultOfTaking cX5_faultOfTaking 4 (some .int) 3 := ⟨⟨cw_1 229 rfl rfl, cw_1 7 rfl rfl, cw_1 232 rfl rfl, by decide +kernel, by decide +kernel, by decide +kernel⟩, cw_1 230 rfl rfl, cw_1 231 rfl rfl⟩
theorem lk_X5_41 : k_lkV RX5 41 yX5_holds cX5_holds 3 (some .boolean) 2 := ⟨⟨cw_1 233 rfl rfl, cw_1 7 rfl rfl, cw_1 236 rfl rfl, by decide +kernel, by decide +kernel, by decide +kernel⟩, cw_1 234 rfl rfl, cw_1 235 rfl rfl⟩
theorem lk_X7_66 : k_lkV RX7 66 yX7_faulted cX7_faulted 2 (some .int) 1 := ⟨⟨cw_1 237 rfl rfl, cw_1 1 rfl rfl, cw_2 0 rfl rfl, by decide +kernel, by decide +kernel, by decide +kernel⟩, cw_1 239 rfl rfl, cw_0 1 rfl rfl⟩
theorem lk_X7_70 : k_lkS RX7 70 yX6_firstFault cX6_firstFault 4 (some .int) 3 := ⟨⟨cw_2 1 rfl rfl, cw_1 9 rfl rfl, cw_2 3 rfl rfl, by decide +kernel, by decide +kernel, by decide +kernel⟩, cw_2 2 rfl rfl⟩
theorem lk_X6_9 : k_lkS RX6 9 yX6_goesOn cX6_goesOn 6 (some .boolean) 3 := ⟨⟨cw_2 4 rfl rfl, cw_1 9 rfl rfl, cw_2 6 rfl rfl, by decide +kernel, by decide +kernel, by decide +kernel⟩, cw_2 5 rfl rfl⟩
theorem lk_X6_15 : k_lkV RX6 15 yX5_at cX5_at 2 (some .int) 1 := ⟨⟨cw_2 7 rfl rfl, cw_1 7 rfl rfl, cw_2 10 rfl rfl, by decide +kernel, by decide +kernel, by decide +kernel⟩, cw_2 8 rfl rfl, cw_2 9 rfl rfl⟩
theorem lk_X6_21 : k_lkS RX6 21 yX6_digit cX6_digit 1 (some .int) 1 := ⟨⟨cw_2 11 rfl rfl, cw_1 9 rfl rfl, cw_2 13 rfl rfl, by decide +kernel, by decide +kernel, by decide +kernel⟩, cw_2 12 rfl rfl⟩
theorem lk_X6_24 : k_lkS RX6 24 yX6_kindOf cX6_kindOf 1 (some .int) 1 := ⟨⟨cw_2 14 rfl rfl, cw_1 9 rfl rfl, cw_2 16 rfl rfl, by decide +kernel, by decide +kernel, by decide +kernel⟩, cw_2 15 rfl rfl⟩
theorem lk_X7_76 : k_lkS RX7 76 yX6_read cX6_read 5 none 3 := ⟨⟨cw_2 17 rfl rfl, cw_1 9 rfl rfl, cw_2 19 rfl rfl, by decide +kernel, by decide +kernel, by decide +kernel⟩, cw_2 18 rfl rfl⟩
theorem lk_X6_27 : k_lkM_min RX6 27 := ⟨cw_2 20 rfl rfl, cw_2 21 rfl rfl, cw_1 10 rfl rfl, cw_2 22 rfl rfl⟩
theorem lk_X6_33 : k_lkM_max RX6 33 := ⟨cw_2 23 rfl rfl, cw_2 24 rfl rfl, cw_1 10 rfl rfl, cw_2 25 rfl rfl⟩
theorem lk_L_18 : k_lkV RL 18 yX7_ofPerson cX7_ofPerson 3 (some .int) 2 := ⟨⟨cw_2 26 rfl rfl, cw_1 1 rfl rfl, cw_2 29 rfl rfl, by decide +kernel, by decide +kernel, by decide +kernel⟩, cw_2 27 rfl rfl, cw_2 28 rfl rfl⟩
theorem lk_X7_85 : k_lkV RX7 85 yX2_has cX2_has 2 (some .boolean) 1 := ⟨⟨cw_2 30 rfl rfl, cw_1 2 rfl rfl, cw_2 33 rfl rfl, by decide +kernel, by decide +kernel, by decide +kernel⟩, cw_2 31 rfl rfl, cw_2 32 rfl rfl⟩
theorem lk_X7_101 : k_lkV RX7 101 yX2_touchiness cX2_touchiness 4 (some .int) 1 := ⟨⟨cw_2 34 rfl rfl, cw_1 2 rfl rfl, cw_2 37 rfl rfl, by decide +kernel, by decide +kernel, by decide +kernel⟩, cw_2 35 rfl rfl, cw_2 36 rfl rfl⟩
theorem lk_X2_32 : k_lkM_max RX2 32 := ⟨cw_2 38 rfl rfl, cw_2 24 rfl rfl, cw_1 10 rfl rfl, cw_2 25 rfl rfl⟩
theorem lk_X7_107 : k_lkS RX7 107 yX7_in cX7_in 2 (some .boolean) 2 := ⟨⟨cw_2 39 rfl rfl, cw_1 1 rfl rfl, cw_2 41 rfl rfl, by decide +kernel, by decide +kernel, by decide +kernel⟩, cw_2 40 rfl rfl⟩
theorem lk_L_23 : k_lkV RL 23 yX7_insult cX7_insult 5 (some .int) 4 := ⟨⟨cw_2 42 rfl rfl, cw_1 1 rfl rfl, cw_2 45 rfl rfl, by decide +kernel, by decide +kernel, by decide +kernel⟩, cw_2 43 rfl rfl, cw_2 44 rfl rfl⟩
theorem lk_X7_111 : k_lkV RX7 111 yX2_hasTwo cX2_hasTwo 3 (some .boolean) 2 := ⟨⟨cw_2 46 rfl rfl, cw_1 2 rfl rfl, cw_2 49 rfl rfl, by decide +kernel, by decide +kernel, by decide +kernel⟩, cw_2 47 rfl rfl, cw_2 48 rfl rfl⟩
theorem lk_X2_28 : k_lkV RX2 28 yX2_has cX2_has 2 (some .boolean) 1 := ⟨⟨cw_2 50 rfl rfl, cw_1 2 rfl rfl, cw_2 33 rfl rfl, by decide +kernel, by decide +kernel, by decide +kernel⟩, cw_2 31 rfl rfl, cw_2 32 rfl rfl⟩
theorem lk_X7_114 : k_lkS RX7 114 yX7_isDay cX7_isDay 1 (some .boolean) 1 := ⟨⟨cw_2 51 rfl rfl, cw_1 1 rfl rfl, cw_2 53 rfl rfl, by decide +kernel, by decide +kernel, by decide +kernel⟩, cw_2 52 rfl rfl⟩
theorem lk_X7_117 : k_lkV RX7 117 yX0_add cX0_add 5 none 4 := ⟨⟨cw_2 54 rfl rfl, cw_1 3 rfl rfl, cw_2 57 rfl rfl, by decide +kernel, by decide +kernel, by decide +kernel⟩, cw_2 55 rfl rfl, cw_2 56 rfl rfl⟩
theorem lk_L_27 : k_lkV RL 27 yX7_sorry cX7_sorry 2 (some .int) 1 := ⟨⟨cw_2 58 rfl rfl, cw_1 1 rfl rfl, cw_2 61 rfl rfl, by decide +kernel, by decide +kernel, by decide +kernel⟩, cw_2 59 rfl rfl, cw_2 60 rfl rfl⟩
theorem lk_L_32 : k_lkV RL 32 yX7_arrest cX7_arrest 3 (some .int) 2 := ⟨⟨cw_2 62 rfl rfl, cw_1 1 rfl rfl, cw_2 65 rfl rfl, by decide +kernel, by decide +kernel, by decide +kernel⟩, cw_2 63 rfl rfl, cw_2 64 rfl rfl⟩
theorem lk_X7_121 : k_lkS RX7 121 yX7_bit cX7_bit 1 (some .int) 1 := ⟨⟨cw_2 66 rfl rfl, cw_1 1 rfl rfl, cw_2 68 rfl rfl, by decide +kernel, by decide +kernel, by decide +kernel⟩, cw_2 67 rfl rfl⟩
theorem lk_L_37 : k_lkV RL 37 yX7_meetings cX7_meetings 2 (some .int) 1 := ⟨⟨cw_2 69 rfl rfl, cw_1 1 rfl rfl, cw_2 72 rfl rfl, by decide +kernel, by decide +kernel, by decide +kernel⟩, cw_2 70 rfl rfl, cw_2 71 rfl rfl⟩
theorem lk_X7_124 : k_lkS RX7 124 yX7_isDawn cX7_isDawn 1 (some .boolean) 1 := ⟨⟨cw_2 73 rfl rfl, cw_1 1 rfl rfl, cw_2 75 rfl rfl, by decide +kernel, by decide +kernel, by decide +kernel⟩, cw_2 74 rfl rfl⟩
theorem lk_X7_127 : k_lkV RX7 127 yX7_isEmpty cX7_isEmpty 1 (some .boolean) 0 := ⟨⟨cw_2 76 rfl rfl, cw_1 1 rfl rfl, cw_2 79 rfl rfl, by decide +kernel, by decide +kernel, by decide +kernel⟩, cw_2 78 rfl rfl, cw_0 2 rfl rfl⟩
theorem lk_X7_131 : k_lkV RX7 131 yX4_live cX4_live 5 none 3 := ⟨⟨cw_2 80 rfl rfl, cw_1 5 rfl rfl, cw_2 83 rfl rfl, by decide +kernel, by decide +kernel, by decide +kernel⟩, cw_2 81 rfl rfl, cw_2 82 rfl rfl⟩
theorem lk_X4_38 : k_lkV RX4 38 yX4_begin cX4_begin 4 none 2 := ⟨⟨cw_2 84 rfl rfl, cw_1 5 rfl rfl, cw_2 87 rfl rfl, by decide +kernel, by decide +kernel, by decide +kernel⟩, cw_2 85 rfl rfl, cw_2 86 rfl rfl⟩
theorem lk_X4_73 : k_lkS RX4 73 yJ7_fill_53178 cJ7_fill_53178 4 none 2 := ⟨⟨cw_2 89 rfl rfl, cw_1 11 rfl rfl, cw_2 91 rfl rfl, by decide +kernel, by decide +kernel, by decide +kernel⟩, cw_2 90 rfl rfl⟩
theorem lk_X4_42 : k_lkV RX4 42 yX4_pass cX4_pass 5 none 1 := ⟨⟨cw_2 92 rfl rfl, cw_1 5 rfl rfl, cw_2 95 rfl rfl, by decide +kernel, by decide +kernel, by decide +kernel⟩, cw_2 93 rfl rfl, cw_2 94 rfl rfl⟩
theorem lk_X4_79 : k_lkV RX4 79 yX4_freeAhead cX4_freeAhead 4 (some .int) 1 := ⟨⟨cw_2 96 rfl rfl, cw_1 5 rfl rfl, cw_2 99 rfl rfl, by decide +kernel, by decide +kernel, by decide +kernel⟩, cw_2 97 rfl rfl, cw_2 98 rfl rfl⟩
theorem lk_X4_86 : k_lkV RX4 86 yX4_answer cX4_answer 10 none 3 := ⟨⟨cw_2 101 rfl rfl, cw_1 5 rfl rfl, cw_2 104 rfl rfl, by decide +kernel, by decide +kernel, by decide +kernel⟩, cw_2 103 rfl rfl, cw_0 3 rfl rfl⟩
theorem lk_X4_105 : k_lkV RX4 105 yX2_touchiness cX2_touchiness 4 (some .int) 1 := ⟨⟨cw_2 105 rfl rfl, cw_1 2 rfl rfl, cw_2 37 rfl rfl, by decide +kernel, by decide +kernel, by decide +kernel⟩, cw_2 35 rfl rfl, cw_2 36 rfl rfl⟩
theorem lk_X4_108 : k_lkV RX4 108 yX2_secondAmong cX2_secondAmong 5 (some .int) 2 := ⟨⟨cw_2 106 rfl rfl, cw_1 2 rfl rfl, cw_2 109 rfl rfl, by decide +kernel, by decide +kernel, by decide +kernel⟩, cw_2 107 rfl rfl, cw_2 108 rfl rfl⟩
theorem lk_X4_112 : k_lkV RX4 112 yX4_shoot cX4_shoot 9 (some .int) 3 := ⟨⟨cw_2 111 rfl rfl, cw_1 5 rfl rfl, cw_2 114 rfl rfl, by decide +kernel, by decide +kernel, by decide +kernel⟩, cw_2 113 rfl rfl, cw_0 4 rfl rfl⟩
theorem lk_X4_123 : k_lkM_abs RX4 123 := ⟨cw_2 115 rfl rfl, cw_2 116 rfl rfl, cw_1 10 rfl rfl, cw_2 117 rfl rfl⟩
theorem lk_X4_131 : k_lkV RX4 131 yX0_add cX0_add 5 none 4 := ⟨⟨cw_2 118 rfl rfl, cw_1 3 rfl rfl, cw_2 57 rfl rfl, by decide +kernel, by decide +kernel, by decide +kernel⟩, cw_2 55 rfl rfl, cw_2 56 rfl rfl⟩
theorem lk_X4_116 : k_lkV RX4 116 yX1_add cX1_add 7 none 6 := ⟨⟨cw_2 119 rfl rfl, cw_1 6 rfl rfl, cw_2 122 rfl rfl, by decide +kernel, by decide +kernel, by decide +kernel⟩, cw_2 120 rfl rfl, cw_2 121 rfl rfl⟩
theorem lk_L_41 : k_lkV RL 41 yX7_met cX7_met 3 (some .int) 2 := ⟨⟨cw_2 123 rfl rfl, cw_1 1 rfl rfl, cw_2 126 rfl rfl, by decide +kernel, by decide +kernel, by decide +kernel⟩, cw_2 124 rfl rfl, cw_2 125 rfl rfl⟩
theorem lk_L_45 : k_lkV RL 45 yX7_free cX7_free 3 (some .int) 2 := ⟨⟨cw_2 127 rfl rfl, cw_1 1 rfl rfl, cw_2 130 rfl rfl, by decide +kernel, by decide +kernel, by decide +kernel⟩, cw_2 128 rfl rfl, cw_2 129 rfl rfl⟩
theorem lk_X7_146 : k_lkV RX7 146 yX4_freeAhead cX4_freeAhead 4 (some .int) 1 := ⟨⟨cw_2 131 rfl rfl, cw_1 5 rfl rfl, cw_2 99 rfl rfl, by decide +kernel, by decide +kernel, by decide +kernel⟩, cw_2 97 rfl rfl, cw_2 98 rfl rfl⟩
theorem lk_L_49 : k_lkV RL 49 yX7_second cX7_second 4 (some .int) 3 := ⟨⟨cw_2 132 rfl rfl, cw_1 1 rfl rfl, cw_2 135 rfl rfl, by decide +kernel, by decide +kernel, by decide +kernel⟩, cw_2 133 rfl rfl, cw_2 134 rfl rfl⟩
theorem lk_X7_149 : k_lkV RX7 149 yX2_secondAmong cX2_secondAmong 5 (some .int) 2 := ⟨⟨cw_2 136 rfl rfl, cw_1 2 rfl rfl, cw_2 109 rfl rfl, by decide +kernel, by decide +kernel, by decide +kernel⟩, cw_2 107 rfl rfl, cw_2 108 rfl rfl⟩
theorem lk_L_54 : k_lkV RL 54 yX7_worth cX7_worth 3 (some .int) 1 := ⟨⟨cw_2 137 rfl rfl, cw_1 1 rfl rfl, cw_2 140 rfl rfl, by decide +kernel, by decide +kernel, by decide +kernel⟩, cw_2 138 rfl rfl, cw_2 139 rfl rfl⟩
theorem lk_L_58 : k_lkV RL 58 yX7_arrests cX7_arrests 4 (some .int) 1 := ⟨⟨cw_2 141 rfl rfl, cw_1 1 rfl rfl, cw_2 144 rfl rfl, by decide +kernel, by decide +kernel, by decide +kernel⟩, cw_2 142 rfl rfl, cw_2 143 rfl rfl⟩
theorem lk_X7_153 : k_lkS RX7 153 yJ6_bitCount_0f7a4 cJ6_bitCount_0f7a4 1 (some .int) 1 := ⟨⟨cw_2 145 rfl rfl, cw_1 12 rfl rfl, cw_2 147 rfl rfl, by decide +kernel, by decide +kernel, by decide +kernel⟩, cw_2 146 rfl rfl⟩
theorem lk_L_62 : k_lkV RL 62 yX7_provoked cX7_provoked 7 (some .int) 3 := ⟨⟨cw_2 151 rfl rfl, cw_1 1 rfl rfl, cw_2 154 rfl rfl, by decide +kernel, by decide +kernel, by decide +kernel⟩, cw_2 152 rfl rfl, cw_2 153 rfl rfl⟩
theorem lk_X7_158 : k_lkV RX7 158 yX7_provokingDegree cX7_provokingDegree 6 (some .int) 4 := ⟨⟨cw_2 155 rfl rfl, cw_1 1 rfl rfl, cw_2 158 rfl rfl, by decide +kernel, by decide +kernel, by decide +kernel⟩, cw_2 157 rfl rfl, cw_0 5 rfl rfl⟩
theorem lk_X7_162 : k_lkV RX7 162 yX1_pairMetBehind cX1_pairMetBehind 4 (some .boolean) 2 := ⟨⟨cw_2 159 rfl rfl, cw_1 6 rfl rfl, cw_2 162 rfl rfl, by decide +kernel, by decide +kernel, by decide +kernel⟩, cw_2 160 rfl rfl, cw_2 161 rfl rfl⟩
theorem lk_X1_24 : k_lkV RX1 24 yX1_pairOf cX1_pairOf 2 (some .int) 1 := ⟨⟨cw_2 163 rfl rfl, cw_1 6 rfl rfl, cw_2 166 rfl rfl, by decide +kernel, by decide +kernel, by decide +kernel⟩, cw_2 165 rfl rfl, cw_0 6 rfl rfl⟩
theorem lk_L_66 : k_lkV RL 66 yX7_odds cX7_odds 7 (some .long) 3 := ⟨⟨cw_2 168 rfl rfl, cw_1 1 rfl rfl, cw_2 171 rfl rfl, by decide +kernel, by decide +kernel, by decide +kernel⟩, cw_2 169 rfl rfl, cw_2 170 rfl rfl⟩
theorem lk_L_71 : k_lkV RL 71 yX7_reading cX7_reading 4 (some .int) 3 := ⟨⟨cw_2 173 rfl rfl, cw_1 1 rfl rfl, cw_2 176 rfl rfl, by decide +kernel, by decide +kernel, by decide +kernel⟩, cw_2 174 rfl rfl, cw_2 175 rfl rfl⟩
theorem lk_X7_170 : k_lkV RX7 170 yX3_add cX3_add 4 none 3 := ⟨⟨cw_2 177 rfl rfl, cw_1 4 rfl rfl, cw_2 180 rfl rfl, by decide +kernel, by decide +kernel, by decide +kernel⟩, cw_2 178 rfl rfl, cw_2 179 rfl rfl⟩
theorem lk_L_76 : k_lkV RL 76 yX7_back cX7_back 2 (some .int) 1 := ⟨⟨cw_2 181 rfl rfl, cw_1 1 rfl rfl, cw_2 184 rfl rfl, by decide +kernel, by decide +kernel, by decide +kernel⟩, cw_2 182 rfl rfl, cw_2 183 rfl rfl⟩
theorem lk_L_80 : k_lkV RL 80 yX7_never cX7_never 3 (some .int) 0 := ⟨⟨cw_2 185 rfl rfl, cw_1 1 rfl rfl, cw_2 188 rfl rfl, by decide +kernel, by decide +kernel, by decide +kernel⟩, cw_2 186 rfl rfl, cw_2 187 rfl rfl⟩
theorem lk_X7_173 : k_lkV RX7 173 yX3_areSo cX3_areSo 3 (some .boolean) 1 := ⟨⟨cw_2 189 rfl rfl, cw_1 4 rfl rfl, cw_2 192 rfl rfl, by decide +kernel, by decide +kernel, by decide +kernel⟩, cw_2 190 rfl rfl, cw_2 191 rfl rfl⟩
theorem lk_X3_26 : k_lkV RX3 26 yX1_wasThere cX1_wasThere 4 (some .boolean) 2 := ⟨⟨cw_2 193 rfl rfl, cw_1 6 rfl rfl, cw_2 196 rfl rfl, by decide +kernel, by decide +kernel, by decide +kernel⟩, cw_2 194 rfl rfl, cw_2 195 rfl rfl⟩
theorem lk_L_85 : k_lkV RL 85 yX7_caught cX7_caught 3 (some .int) 0 := ⟨⟨cw_2 198 rfl rfl, cw_1 1 rfl rfl, cw_2 201 rfl rfl, by decide +kernel, by decide +kernel, by decide +kernel⟩, cw_2 199 rfl rfl, cw_2 200 rfl rfl⟩
theorem lk_L_89 : k_lkV RL 89 yX7_row cX7_row 8 (some .int) 4 := ⟨⟨cw_2 202 rfl rfl, cw_1 1 rfl rfl, cw_2 205 rfl rfl, by decide +kernel, by decide +kernel, by decide +kernel⟩, cw_2 203 rfl rfl, cw_2 204 rfl rfl⟩
theorem lk_X7_177 : k_lkV RX7 177 yX5_at cX5_at 2 (some .int) 1 := ⟨⟨cw_2 206 rfl rfl, cw_1 7 rfl rfl, cw_2 10 rfl rfl, by decide +kernel, by decide +kernel, by decide +kernel⟩, cw_2 8 rfl rfl, cw_2 9 rfl rfl⟩
theorem lk_X7_180 : k_lkV RX7 180 yX7_freeInTurn cX7_freeInTurn 5 (some .int) 3 := ⟨⟨cw_2 207 rfl rfl, cw_1 1 rfl rfl, cw_2 210 rfl rfl, by decide +kernel, by decide +kernel, by decide +kernel⟩, cw_2 209 rfl rfl, cw_0 7 rfl rfl⟩
theorem lk_X7_183 : k_lkV RX7 183 yX4_begin cX4_begin 4 none 2 := ⟨⟨cw_2 211 rfl rfl, cw_1 5 rfl rfl, cw_2 87 rfl rfl, by decide +kernel, by decide +kernel, by decide +kernel⟩, cw_2 85 rfl rfl, cw_2 86 rfl rfl⟩
theorem lk_X7_187 : k_lkV RX7 187 yX4_pass cX4_pass 5 none 1 := ⟨⟨cw_2 212 rfl rfl, cw_1 5 rfl rfl, cw_2 95 rfl rfl, by decide +kernel, by decide +kernel, by decide +kernel⟩, cw_2 93 rfl rfl, cw_2 94 rfl rfl⟩
theorem lk_L_93 : k_lkV RL 93 yX7_sheet cX7_sheet 5 (some .int) 3 := ⟨⟨cw_2 213 rfl rfl, cw_1 1 rfl rfl, cw_2 216 rfl rfl, by decide +kernel, by decide +kernel, by decide +kernel⟩, cw_2 214 rfl rfl, cw_2 215 rfl rfl⟩
theorem lk_X7_190 : k_lkV RX7 190 yX5_renew cX5_renew 3 none 2 := ⟨⟨cw_2 217 rfl rfl, cw_1 7 rfl rfl, cw_2 220 rfl rfl, by decide +kernel, by decide +kernel, by decide +kernel⟩, cw_2 218 rfl rfl, cw_2 219 rfl rfl⟩
theorem lk_X5_23 : k_lkM_min RX5 23 := ⟨cw_2 221 rfl rfl, cw_2 21 rfl rfl, cw_1 10 rfl rfl, cw_2 22 rfl rfl⟩
theorem lk_X5_29 : k_lkM_max RX5 29 := ⟨cw_2 222 rfl rfl, cw_2 24 rfl rfl, cw_1 10 rfl rfl, cw_2 25 rfl rfl⟩
theorem lk_X5_35 : k_lkS RX5 35 yJ7_fill_53178 cJ7_fill_53178 4 none 2 := ⟨⟨cw_2 223 rfl rfl, cw_1 11 rfl rfl, cw_2 91 rfl rfl, by decide +kernel, by decide +kernel, by decide +kernel⟩, cw_2 90 rfl rfl⟩
theorem lk_L_97 : k_lkV RL 97 yX7_lose cX7_lose 3 (some .int) 1 := ⟨⟨cw_2 224 rfl rfl, cw_1 1 rfl rfl, cw_2 227 rfl rfl, by decide +kernel, by decide +kernel, by decide +kernel⟩, cw_2 225 rfl rfl, cw_2 226 rfl rfl⟩
theorem lk_L_101 : k_lkV RL 101 yX7_put cX7_put 5 (some .int) 3 := ⟨⟨cw_2 228 rfl rfl, cw_1 1 rfl rfl, cw_2 231 rfl rfl, by decide +kernel, by decide +kernel, by decide +kernel⟩, cw_2 229 rfl rfl, cw_2 230 rfl rfl⟩
theorem lk_X7_197 : k_lkV RX7 197 yX5_holds cX5_holds 3 (some .boolean) 2 := ⟨⟨cw_2 232 rfl rfl, cw_1 7 rfl rfl, cw_1 236 rfl rfl, by decide +kernel, by decide +kernel, by decide +kernel⟩, cw_1 234 rfl rfl, cw_1 235 rfl rfl⟩
theorem lk_X7_206 : k_lkS RX7 206 yX7_cut cX7_cut 2 (some .int) 2 := ⟨⟨cw_2 233 rfl rfl, cw_1 1 rfl rfl, cw_2 235 rfl rfl, by decide +kernel, by decide +kernel, by decide +kernel⟩, cw_2 234 rfl rfl⟩
theorem lk_L_105 : k_lkV RL 105 yX7_cell cX7_cell 6 (some .long) 3 := ⟨⟨cw_2 236 rfl rfl, cw_1 1 rfl rfl, cw_2 239 rfl rfl, by decide +kernel, by decide +kernel, by decide +kernel⟩, cw_2 237 rfl rfl, cw_2 238 rfl rfl⟩
theorem lk_L_109 : k_lkV RL 109 yX7_copy cX7_copy 8 (some .int) 5 := ⟨⟨cw_3 0 rfl rfl, cw_1 1 rfl rfl, cw_3 3 rfl rfl, by decide +kernel, by decide +kernel, by decide +kernel⟩, cw_3 1 rfl rfl, cw_3 2 rfl rfl⟩
theorem lk_X7_209 : k_lkCp RX7 209 := ⟨cw_3 4 rfl rfl, cw_3 6 rfl rfl, cw_3 5 rfl rfl, cw_1 13 rfl rfl⟩
theorem lk_L_114 : k_lkV RL 114 yX7_tell cX7_tell 2 (some .int) 1 := ⟨⟨cw_3 7 rfl rfl, cw_1 1 rfl rfl, cw_3 10 rfl rfl, by decide +kernel, by decide +kernel, by decide +kernel⟩, cw_3 8 rfl rfl, cw_3 9 rfl rfl⟩
theorem lk_X7_215 : k_lkV RX7 215 yX7_tellOfficer cX7_tellOfficer 3 (some .int) 1 := ⟨⟨cw_3 11 rfl rfl, cw_1 1 rfl rfl, cw_3 14 rfl rfl, by decide +kernel, by decide +kernel, by decide +kernel⟩, cw_3 13 rfl rfl, cw_0 8 rfl rfl⟩
theorem lk_X7_234 : k_lkV RX7 234 yX7_leave cX7_leave 2 none 1 := ⟨⟨cw_3 15 rfl rfl, cw_1 1 rfl rfl, cw_3 18 rfl rfl, by decide +kernel, by decide +kernel, by decide +kernel⟩, cw_3 17 rfl rfl, cw_0 9 rfl rfl⟩
theorem lk_X7_218 : k_lkV RX7 218 yX7_tellHothead cX7_tellHothead 2 (some .int) 1 := ⟨⟨cw_3 19 rfl rfl, cw_1 1 rfl rfl, cw_3 22 rfl rfl, by decide +kernel, by decide +kernel, by decide +kernel⟩, cw_3 21 rfl rfl, cw_0 10 rfl rfl⟩
theorem lk_X7_221 : k_lkV RX7 221 yX7_tellGentleman cX7_tellGentleman 2 (some .int) 1 := ⟨⟨cw_3 23 rfl rfl, cw_1 1 rfl rfl, cw_3 26 rfl rfl, by decide +kernel, by decide +kernel, by decide +kernel⟩, cw_3 25 rfl rfl, cw_0 11 rfl rfl⟩
theorem lk_L_118 : k_lkV RL 118 yX7_salute cX7_salute 2 (some .int) 1 := ⟨⟨cw_3 27 rfl rfl, cw_1 1 rfl rfl, cw_3 30 rfl rfl, by decide +kernel, by decide +kernel, by decide +kernel⟩, cw_3 28 rfl rfl, cw_3 29 rfl rfl⟩
theorem lk_X7_224 : k_lkV RX7 224 yX7_saluteOfficer cX7_saluteOfficer 1 (some .int) 0 := ⟨⟨cw_3 31 rfl rfl, cw_1 1 rfl rfl, cw_3 34 rfl rfl, by decide +kernel, by decide +kernel, by decide +kernel⟩, cw_3 33 rfl rfl, cw_0 12 rfl rfl⟩
theorem lk_X7_228 : k_lkV RX7 228 yX7_saluteByLentBody cX7_saluteByLentBody 2 (some .int) 1 := ⟨⟨cw_3 35 rfl rfl, cw_1 1 rfl rfl, cw_3 38 rfl rfl, by decide +kernel, by decide +kernel, by decide +kernel⟩, cw_3 37 rfl rfl, cw_0 13 rfl rfl⟩
theorem lk_L_122 : k_lkV RL 122 yX7_as cX7_as 3 (some .int) 2 := ⟨⟨cw_3 39 rfl rfl, cw_1 1 rfl rfl, cw_3 42 rfl rfl, by decide +kernel, by decide +kernel, by decide +kernel⟩, cw_3 40 rfl rfl, cw_3 41 rfl rfl⟩
theorem lk_L_126 : k_lkV RL 126 yX7_trace cX7_trace 1 (some .int) 0 := ⟨⟨cw_3 43 rfl rfl, cw_1 1 rfl rfl, cw_3 46 rfl rfl, by decide +kernel, by decide +kernel, by decide +kernel⟩, cw_3 44 rfl rfl, cw_3 45 rfl rfl⟩
theorem lk_L_130 : k_lkV RL 130 yX7_fault cX7_fault 1 (some .int) 0 := ⟨⟨cw_3 47 rfl rfl, cw_1 1 rfl rfl, cw_3 50 rfl rfl, by decide +kernel, by decide +kernel, by decide +kernel⟩, cw_3 48 rfl rfl, cw_3 49 rfl rfl⟩
theorem lk_L_134 : k_lkV RL 134 yX7_many cX7_many 2 (some .int) 1 := ⟨⟨cw_3 51 rfl rfl, cw_1 1 rfl rfl, cw_3 54 rfl rfl, by decide +kernel, by decide +kernel, by decide +kernel⟩, cw_3 52 rfl rfl, cw_3 53 rfl rfl⟩
theorem lk_L_17 : k_lkV RL 17 yX8_coast cX8_coast 8 (some .int) 4 := ⟨⟨cw_3 179 rfl rfl, cw_1 8 rfl rfl, cw_3 182 rfl rfl, by decide +kernel, by decide +kernel, by decide +kernel⟩, cw_3 180 rfl rfl, cw_3 181 rfl rfl⟩
theorem lk_X8_111 : k_lkS RX8 111 yX8_isSheet cX8_isSheet 1 (some .boolean) 1 := ⟨⟨cw_3 183 rfl rfl, cw_1 8 rfl rfl, cw_3 185 rfl rfl, by decide +kernel, by decide +kernel, by decide +kernel⟩, cw_3 184 rfl rfl⟩
theorem lk_X8_101 : k_lkS RX8 101 yX8_within cX8_within 3 (some .boolean) 3 := ⟨⟨cw_3 186 rfl rfl, cw_1 8 rfl rfl, cw_3 188 rfl rfl, by decide +kernel, by decide +kernel, by decide +kernel⟩, cw_3 187 rfl rfl⟩
theorem lk_X8_115 : k_lkS RX8 115 yX8_isSort cX8_isSort 1 (some .boolean) 1 := ⟨⟨cw_3 189 rfl rfl, cw_1 8 rfl rfl, cw_3 191 rfl rfl, by decide +kernel, by decide +kernel, by decide +kernel⟩, cw_3 190 rfl rfl⟩
theorem lk_X8_118 : k_lkV RX8 118 yX8_against cX8_against 5 (some .int) 4 := ⟨⟨cw_3 192 rfl rfl, cw_1 8 rfl rfl, cw_3 195 rfl rfl, by decide +kernel, by decide +kernel, by decide +kernel⟩, cw_3 194 rfl rfl, cw_0 14 rfl rfl⟩
theorem lk_X8_122 : k_lkV RX8 122 yX8_fails cX8_fails 2 (some .int) 1 := ⟨⟨cw_3 196 rfl rfl, cw_1 8 rfl rfl, cw_3 199 rfl rfl, by decide +kernel, by decide +kernel, by decide +kernel⟩, cw_3 198 rfl rfl, cw_0 15 rfl rfl⟩
theorem lk_X8_126 : k_lkV RX8 126 yX8_readCoast cX8_readCoast 3 (some .boolean) 1 := ⟨⟨cw_3 200 rfl rfl, cw_1 8 rfl rfl, cw_3 203 rfl rfl, by decide +kernel, by decide +kernel, by decide +kernel⟩, cw_3 202 rfl rfl, cw_0 16 rfl rfl⟩
theorem lk_X8_138 : k_lkV RX8 138 yX8_digit cX8_digit 4 (some .int) 3 := ⟨⟨cw_3 204 rfl rfl, cw_1 8 rfl rfl, cw_3 207 rfl rfl, by decide +kernel, by decide +kernel, by decide +kernel⟩, cw_3 206 rfl rfl, cw_0 17 rfl rfl⟩
theorem lk_X8_142 : k_lkV RX8 142 yX8_readPerson cX8_readPerson 6 (some .boolean) 2 := ⟨⟨cw_3 208 rfl rfl, cw_1 8 rfl rfl, cw_3 211 rfl rfl, by decide +kernel, by decide +kernel, by decide +kernel⟩, cw_3 210 rfl rfl, cw_0 18 rfl rfl⟩
theorem lk_L_22 : k_lkV RL 22 yX8_ofPerson cX8_ofPerson 3 (some .int) 2 := ⟨⟨cw_3 212 rfl rfl, cw_1 8 rfl rfl, cw_3 215 rfl rfl, by decide +kernel, by decide +kernel, by decide +kernel⟩, cw_3 213 rfl rfl, cw_3 214 rfl rfl⟩
theorem lk_X8_145 : k_lkV RX8 145 yX8_isPerson cX8_isPerson 2 (some .boolean) 1 := ⟨⟨cw_3 216 rfl rfl, cw_1 8 rfl rfl, cw_3 219 rfl rfl, by decide +kernel, by decide +kernel, by decide +kernel⟩, cw_3 218 rfl rfl, cw_0 19 rfl rfl⟩
theorem lk_X8_148 : k_lkV RX8 148 yX8_touchy cX8_touchy 3 (some .int) 1 := ⟨⟨cw_3 220 rfl rfl, cw_1 8 rfl rfl, cw_3 223 rfl rfl, by decide +kernel, by decide +kernel, by decide +kernel⟩, cw_3 222 rfl rfl, cw_0 20 rfl rfl⟩
theorem lk_L_26 : k_lkV RL 26 yX8_insult cX8_insult 5 (some .int) 4 := ⟨⟨cw_3 224 rfl rfl, cw_1 8 rfl rfl, cw_3 227 rfl rfl, by decide +kernel, by decide +kernel, by decide +kernel⟩, cw_3 225 rfl rfl, cw_3 226 rfl rfl⟩
theorem lk_X8_151 : k_lkV RX8 151 yX8_lay cX8_lay 6 none 5 := ⟨⟨cw_3 228 rfl rfl, cw_1 8 rfl rfl, cw_3 231 rfl rfl, by decide +kernel, by decide +kernel, by decide +kernel⟩, cw_3 230 rfl rfl, cw_0 21 rfl rfl⟩
theorem lk_L_31 : k_lkV RL 31 yX8_sorry cX8_sorry 2 (some .int) 1 := ⟨⟨cw_3 232 rfl rfl, cw_1 8 rfl rfl, cw_3 235 rfl rfl, by decide +kernel, by decide +kernel, by decide +kernel⟩, cw_3 233 rfl rfl, cw_3 234 rfl rfl⟩
theorem lk_L_36 : k_lkV RL 36 yX8_arrest cX8_arrest 4 (some .int) 2 := ⟨⟨cw_3 236 rfl rfl, cw_1 8 rfl rfl, cw_3 239 rfl rfl, by decide +kernel, by decide +kernel, by decide +kernel⟩, cw_3 237 rfl rfl, cw_3 238 rfl rfl⟩
theorem lk_L_40 : k_lkV RL 40 yX8_meetings cX8_meetings 2 (some .int) 1 := ⟨⟨cw_4 0 rfl rfl, cw_1 8 rfl rfl, cw_4 3 rfl rfl, by decide +kernel, by decide +kernel, by decide +kernel⟩, cw_4 1 rfl rfl, cw_4 2 rfl rfl⟩
theorem lk_X8_195 : k_lkS RX8 195 yX8_isDawn cX8_isDawn 1 (some .boolean) 1 := ⟨⟨cw_4 4 rfl rfl, cw_1 8 rfl rfl, cw_4 6 rfl rfl, by decide +kernel, by decide +kernel, by decide +kernel⟩, cw_4 5 rfl rfl⟩
theorem lk_X8_198 : k_lkV RX8 198 yX8_goAhead cX8_goAhead 3 none 1 := ⟨⟨cw_4 7 rfl rfl, cw_1 8 rfl rfl, cw_4 10 rfl rfl, by decide +kernel, by decide +kernel, by decide +kernel⟩, cw_4 9 rfl rfl, cw_0 22 rfl rfl⟩
theorem lk_X8_188 : k_lkV RX8 188 yX8_begin cX8_begin 2 none 0 := ⟨⟨cw_4 11 rfl rfl, cw_1 8 rfl rfl, cw_4 14 rfl rfl, by decide +kernel, by decide +kernel, by decide +kernel⟩, cw_4 13 rfl rfl, cw_0 23 rfl rfl⟩
theorem lk_X8_191 : k_lkV RX8 191 yX8_goDawn cX8_goDawn 4 none 1 := ⟨⟨cw_4 15 rfl rfl, cw_1 8 rfl rfl, cw_4 18 rfl rfl, by decide +kernel, by decide +kernel, by decide +kernel⟩, cw_4 17 rfl rfl, cw_0 24 rfl rfl⟩
theorem lk_X8_184 : k_lkV RX8 184 yX8_answer cX8_answer 7 none 4 := ⟨⟨cw_4 19 rfl rfl, cw_1 8 rfl rfl, cw_4 22 rfl rfl, by decide +kernel, by decide +kernel, by decide +kernel⟩, cw_4 21 rfl rfl, cw_0 25 rfl rfl⟩
theorem lk_X8_175 : k_lkV RX8 175 yX8_secondOf cX8_secondOf 9 (some .int) 4 := ⟨⟨cw_4 23 rfl rfl, cw_1 8 rfl rfl, cw_4 26 rfl rfl, by decide +kernel, by decide +kernel, by decide +kernel⟩, cw_4 25 rfl rfl, cw_0 26 rfl rfl⟩
theorem lk_X8_161 : k_lkV RX8 161 yX8_maySecond cX8_maySecond 6 (some .boolean) 5 := ⟨⟨cw_4 27 rfl rfl, cw_1 8 rfl rfl, cw_4 30 rfl rfl, by decide +kernel, by decide +kernel, by decide +kernel⟩, cw_4 29 rfl rfl, cw_0 27 rfl rfl⟩
theorem lk_X8_158 : k_lkV RX8 158 yX8_isFree cX8_isFree 3 (some .boolean) 2 := ⟨⟨cw_4 31 rfl rfl, cw_1 8 rfl rfl, cw_4 34 rfl rfl, by decide +kernel, by decide +kernel, by decide +kernel⟩, cw_4 33 rfl rfl, cw_0 28 rfl rfl⟩
theorem lk_X8_178 : k_lkV RX8 178 yX8_meet cX8_meet 7 none 5 := ⟨⟨cw_4 35 rfl rfl, cw_1 8 rfl rfl, cw_4 38 rfl rfl, by decide +kernel, by decide +kernel, by decide +kernel⟩, cw_4 37 rfl rfl, cw_0 29 rfl rfl⟩
theorem lk_X8_168 : k_lkV RX8 168 yX8_hurt cX8_hurt 5 none 3 := ⟨⟨cw_4 39 rfl rfl, cw_1 8 rfl rfl, cw_4 42 rfl rfl, by decide +kernel, by decide +kernel, by decide +kernel⟩, cw_4 41 rfl rfl, cw_0 30 rfl rfl⟩
theorem lk_L_44 : k_lkV RL 44 yX8_met cX8_met 3 (some .int) 2 := ⟨⟨cw_4 43 rfl rfl, cw_1 8 rfl rfl, cw_4 46 rfl rfl, by decide +kernel, by decide +kernel, by decide +kernel⟩, cw_4 44 rfl rfl, cw_4 45 rfl rfl⟩
theorem lk_L_48 : k_lkV RL 48 yX8_free cX8_free 3 (some .int) 2 := ⟨⟨cw_4 47 rfl rfl, cw_1 8 rfl rfl, cw_4 50 rfl rfl, by decide +kernel, by decide +kernel, by decide +kernel⟩, cw_4 48 rfl rfl, cw_4 49 rfl rfl⟩
theorem lk_L_53 : k_lkV RL 53 yX8_second cX8_second 4 (some .int) 3 := ⟨⟨cw_4 51 rfl rfl, cw_1 8 rfl rfl, cw_4 54 rfl rfl, by decide +kernel, by decide +kernel, by decide +kernel⟩, cw_4 52 rfl rfl, cw_4 53 rfl rfl⟩
theorem lk_L_57 : k_lkV RL 57 yX8_worth cX8_worth 3 (some .int) 1 := ⟨⟨cw_4 55 rfl rfl, cw_1 8 rfl rfl, cw_4 58 rfl rfl, by decide +kernel, by decide +kernel, by decide +kernel⟩, cw_4 56 rfl rfl, cw_4 57 rfl rfl⟩
theorem lk_L_61 : k_lkV RL 61 yX8_arrests cX8_arrests 5 (some .int) 1 := ⟨⟨cw_4 59 rfl rfl, cw_1 8 rfl rfl, cw_4 62 rfl rfl, by decide +kernel, by decide +kernel, by decide +kernel⟩, cw_4 60 rfl rfl, cw_4 61 rfl rfl⟩
theorem lk_X8_201 : k_lkS RX8 201 yX8_size cX8_size 3 (some .int) 1 := ⟨⟨cw_4 63 rfl rfl, cw_1 8 rfl rfl, cw_4 65 rfl rfl, by decide +kernel, by decide +kernel, by decide +kernel⟩, cw_4 64 rfl rfl⟩
theorem lk_X8_204 : k_lkV RX8 204 yX8_arrestAll cX8_arrestAll 4 none 2 := ⟨⟨cw_4 66 rfl rfl, cw_1 8 rfl rfl, cw_4 69 rfl rfl, by decide +kernel, by decide +kernel, by decide +kernel⟩, cw_4 68 rfl rfl, cw_0 31 rfl rfl⟩
theorem lk_L_65 : k_lkV RL 65 yX8_provoked cX8_provoked 7 (some .int) 3 := ⟨⟨cw_4 70 rfl rfl, cw_1 8 rfl rfl, cw_4 73 rfl rfl, by decide +kernel, by decide +kernel, by decide +kernel⟩, cw_4 71 rfl rfl, cw_4 72 rfl rfl⟩
theorem lk_X8_211 : k_lkV RX8 211 yX8_doesProvoke cX8_doesProvoke 7 (some .boolean) 6 := ⟨⟨cw_4 74 rfl rfl, cw_1 8 rfl rfl, cw_4 77 rfl rfl, by decide +kernel, by decide +kernel, by decide +kernel⟩, cw_4 76 rfl rfl, cw_0 32 rfl rfl⟩
theorem lk_X8_208 : k_lkV RX8 208 yX8_didMeet cX8_didMeet 6 (some .boolean) 3 := ⟨⟨cw_4 78 rfl rfl, cw_1 8 rfl rfl, cw_4 81 rfl rfl, by decide +kernel, by decide +kernel, by decide +kernel⟩, cw_4 80 rfl rfl, cw_0 33 rfl rfl⟩
theorem lk_L_70 : k_lkV RL 70 yX8_odds cX8_odds 6 (some .long) 3 := ⟨⟨cw_4 82 rfl rfl, cw_1 8 rfl rfl, cw_4 85 rfl rfl, by decide +kernel, by decide +kernel, by decide +kernel⟩, cw_4 83 rfl rfl, cw_4 84 rfl rfl⟩
theorem lk_X8_215 : k_lkV RX8 215 yX8_wasHurt cX8_wasHurt 3 (some .boolean) 1 := ⟨⟨cw_4 87 rfl rfl, cw_1 8 rfl rfl, cw_4 90 rfl rfl, by decide +kernel, by decide +kernel, by decide +kernel⟩, cw_4 89 rfl rfl, cw_0 34 rfl rfl⟩
theorem lk_X8_218 : k_lkS RX8 218 yX8_inLeastTerms cX8_inLeastTerms 11 (some .long) 3 := ⟨⟨cw_4 91 rfl rfl, cw_1 8 rfl rfl, cw_4 93 rfl rfl, by decide +kernel, by decide +kernel, by decide +kernel⟩, cw_4 92 rfl rfl⟩
theorem lk_L_75 : k_lkV RL 75 yX8_reading cX8_reading 4 (some .int) 3 := ⟨⟨cw_4 94 rfl rfl, cw_1 8 rfl rfl, cw_4 97 rfl rfl, by decide +kernel, by decide +kernel, by decide +kernel⟩, cw_4 95 rfl rfl, cw_4 96 rfl rfl⟩
theorem lk_L_79 : k_lkV RL 79 yX8_back cX8_back 2 (some .int) 1 := ⟨⟨cw_4 98 rfl rfl, cw_1 8 rfl rfl, cw_4 101 rfl rfl, by decide +kernel, by decide +kernel, by decide +kernel⟩, cw_4 99 rfl rfl, cw_4 100 rfl rfl⟩
theorem lk_L_84 : k_lkV RL 84 yX8_never cX8_never 3 (some .int) 0 := ⟨⟨cw_4 102 rfl rfl, cw_1 8 rfl rfl, cw_4 105 rfl rfl, by decide +kernel, by decide +kernel, by decide +kernel⟩, cw_4 103 rfl rfl, cw_4 104 rfl rfl⟩
theorem lk_X8_225 : k_lkV RX8 225 yX8_areSo cX8_areSo 2 (some .boolean) 0 := ⟨⟨cw_4 106 rfl rfl, cw_1 8 rfl rfl, cw_4 109 rfl rfl, by decide +kernel, by decide +kernel, by decide +kernel⟩, cw_4 108 rfl rfl, cw_0 35 rfl rfl⟩
theorem lk_X8_222 : k_lkV RX8 222 yX8_wasIn cX8_wasIn 4 (some .boolean) 2 := ⟨⟨cw_4 110 rfl rfl, cw_1 8 rfl rfl, cw_4 113 rfl rfl, by decide +kernel, by decide +kernel, by decide +kernel⟩, cw_4 112 rfl rfl, cw_0 36 rfl rfl⟩
theorem lk_L_88 : k_lkV RL 88 yX8_caught cX8_caught 4 (some .int) 0 := ⟨⟨cw_4 114 rfl rfl, cw_1 8 rfl rfl, cw_4 117 rfl rfl, by decide +kernel, by decide +kernel, by decide +kernel⟩, cw_4 115 rfl rfl, cw_4 116 rfl rfl⟩
theorem lk_L_92 : k_lkV RL 92 yX8_row cX8_row 8 (some .int) 4 := ⟨⟨cw_4 118 rfl rfl, cw_1 8 rfl rfl, cw_4 121 rfl rfl, by decide +kernel, by decide +kernel, by decide +kernel⟩, cw_4 119 rfl rfl, cw_4 120 rfl rfl⟩
theorem lk_L_96 : k_lkV RL 96 yX8_sheet cX8_sheet 5 (some .int) 3 := ⟨⟨cw_4 122 rfl rfl, cw_1 8 rfl rfl, cw_4 125 rfl rfl, by decide +kernel, by decide +kernel, by decide +kernel⟩, cw_4 123 rfl rfl, cw_4 124 rfl rfl⟩
theorem lk_L_100 : k_lkV RL 100 yX8_lose cX8_lose 3 (some .int) 1 := ⟨⟨cw_4 126 rfl rfl, cw_1 8 rfl rfl, cw_4 129 rfl rfl, by decide +kernel, by decide +kernel, by decide +kernel⟩, cw_4 127 rfl rfl, cw_4 128 rfl rfl⟩
theorem lk_L_104 : k_lkV RL 104 yX8_put cX8_put 4 (some .int) 3 := ⟨⟨cw_4 130 rfl rfl, cw_1 8 rfl rfl, cw_4 133 rfl rfl, by decide +kernel, by decide +kernel, by decide +kernel⟩, cw_4 131 rfl rfl, cw_4 132 rfl rfl⟩
theorem lk_L_108 : k_lkV RL 108 yX8_cell cX8_cell 4 (some .long) 3 := ⟨⟨cw_4 134 rfl rfl, cw_1 8 rfl rfl, cw_4 137 rfl rfl, by decide +kernel, by decide +kernel, by decide +kernel⟩, cw_4 135 rfl rfl, cw_4 136 rfl rfl⟩
theorem lk_X8_229 : k_lkV RX8 229 yX8_lost cX8_lost 2 (some .long) 1 := ⟨⟨cw_4 138 rfl rfl, cw_1 8 rfl rfl, cw_4 141 rfl rfl, by decide +kernel, by decide +kernel, by decide +kernel⟩, cw_4 140 rfl rfl, cw_0 37 rfl rfl⟩
theorem lk_L_113 : k_lkV RL 113 yX8_copy cX8_copy 10 (some .int) 5 := ⟨⟨cw_4 142 rfl rfl, cw_1 8 rfl rfl, cw_4 145 rfl rfl, by decide +kernel, by decide +kernel, by decide +kernel⟩, cw_4 143 rfl rfl, cw_4 144 rfl rfl⟩
theorem lk_L_117 : k_lkV RL 117 yX8_tell cX8_tell 3 (some .int) 1 := ⟨⟨cw_4 146 rfl rfl, cw_1 8 rfl rfl, cw_4 149 rfl rfl, by decide +kernel, by decide +kernel, by decide +kernel⟩, cw_4 147 rfl rfl, cw_4 148 rfl rfl⟩
theorem lk_X8_236 : k_lkV RX8 236 yX8_begins cX8_begins 2 none 1 := ⟨⟨cw_4 150 rfl rfl, cw_1 8 rfl rfl, cw_4 153 rfl rfl, by decide +kernel, by decide +kernel, by decide +kernel⟩, cw_4 152 rfl rfl, cw_0 38 rfl rfl⟩
theorem lk_L_121 : k_lkV RL 121 yX8_salute cX8_salute 2 (some .int) 1 := ⟨⟨cw_4 154 rfl rfl, cw_1 8 rfl rfl, cw_4 157 rfl rfl, by decide +kernel, by decide +kernel, by decide +kernel⟩, cw_4 155 rfl rfl, cw_4 156 rfl rfl⟩
theorem lk_L_125 : k_lkV RL 125 yX8_as cX8_as 3 (some .int) 2 := ⟨⟨cw_4 158 rfl rfl, cw_1 8 rfl rfl, cw_4 161 rfl rfl, by decide +kernel, by decide +kernel, by decide +kernel⟩, cw_4 159 rfl rfl, cw_4 160 rfl rfl⟩
theorem lk_L_129 : k_lkV RL 129 yX8_trace cX8_trace 1 (some .int) 0 := ⟨⟨cw_4 162 rfl rfl, cw_1 8 rfl rfl, cw_4 165 rfl rfl, by decide +kernel, by decide +kernel, by decide +kernel⟩, cw_4 163 rfl rfl, cw_4 164 rfl rfl⟩
theorem lk_L_133 : k_lkV RL 133 yX8_fault cX8_fault 1 (some .int) 0 := ⟨⟨cw_4 166 rfl rfl, cw_1 8 rfl rfl, cw_4 169 rfl rfl, by decide +kernel, by decide +kernel, by decide +kernel⟩, cw_4 167 rfl rfl, cw_4 168 rfl rfl⟩
theorem lk_L_137 : k_lkV RL 137 yX8_many cX8_many 2 (some .int) 1 := ⟨⟨cw_4 170 rfl rfl, cw_1 8 rfl rfl, cw_4 173 rfl rfl, by decide +kernel, by decide +kernel, by decide +kernel⟩, cw_4 171 rfl rfl, cw_4 172 rfl rfl⟩
theorem lk_X4_59 : k_lkN RX4 59 yX7_in cX7_in 2 (some .boolean) 2 := ⟨RX7, List.mem_of_getElem? (i := 4) rfl, cw_1 1 rfl rfl, cw_2 41 rfl rfl, ⟨by decide +kernel, by decide +kernel, by decide +kernel⟩, cw_2 40 rfl rfl⟩
theorem lk_X4_93 : k_lkN RX4 93 yX7_bit cX7_bit 1 (some .int) 1 := ⟨RX7, List.mem_of_getElem? (i := 5) rfl, cw_1 1 rfl rfl, cw_2 68 rfl rfl, ⟨by decide +kernel, by decide +kernel, by decide +kernel⟩, cw_2 67 rfl rfl⟩
theorem lk_X2_38 : k_lkN RX2 38 yX7_in cX7_in 2 (some .boolean) 2 := ⟨RX7, List.mem_of_getElem? (i := 6) rfl, cw_1 1 rfl rfl, cw_2 41 rfl rfl, ⟨by decide +kernel, by decide +kernel, by decide +kernel⟩, cw_2 40 rfl rfl⟩
theorem lk_X1_20 : k_lkN RX1 20 yX7_bit cX7_bit 1 (some .int) 1 := ⟨RX7, List.mem_of_getElem? (i := 7) rfl, cw_1 1 rfl rfl, cw_2 68 rfl rfl, ⟨by decide +kernel, by decide +kernel, by decide +kernel⟩, cw_2 67 rfl rfl⟩
theorem lk_X1_27 : k_lkN RX1 27 yX7_in cX7_in 2 (some .boolean) 2 := ⟨RX7, List.mem_of_getElem? (i := 8) rfl, cw_1 1 rfl rfl, cw_2 41 rfl rfl, ⟨by decide +kernel, by decide +kernel, by decide +kernel⟩, cw_2 40 rfl rfl⟩
theorem lc_J6_265 : Cond.constant RJ6 265 (1431655765) ∈ cw := cw_2 148 rfl rfl
theorem lc_J6_266 : Cond.constant RJ6 266 (858993459) ∈ cw := cw_2 149 rfl rfl
theorem lc_J6_267 : Cond.constant RJ6 267 (252645135) ∈ cw := cw_2 150 rfl rfl
theorem lc_X7_165 : Cond.constantLong RX7 165 (-9223372036854775808) ∈ cw := cw_2 172 rfl rfl
theorem lc_X8_99 : Cond.constantLong RX8 99 (-9223372036854775808) ∈ cw := cw_4 86 rfl rfl
def shC : List kE := [
  .inl (6, [some (some 1), some (some 6), some (some 11), some (some 15), some (some 30), none, none]),
  .inl (2, [none, none, some (some 2), some (some 3), some (some 4), some (some 5)]),
  .inr (.inl (0, 6)),
  .inr (.inl (0, 6)),
  .inr (.inl (0, 6)),
  .inr (.inl (0, 6)),
  .inl (0, [none, some (some 7), some (some 8), some (some 9), some (some 10)]),
  .inr (.inl (0, 9)),
  .inr (.inl (0, 9)),
  .inr (.inl (0, 9)),
  .inr (.inl (0, 9)),
  .inl (3, [none, some (some 12), some (some 13), some (some 14)]),
  .inr (.inl (0, 8)),
  .inr (.inl (0, 8)),
  .inr (.inl (1, 8)),
  .inl (4, [some (some 16), none, some (some 1), some (some 6), some (some 24), none, some (some 29), none, some none, none, none]),
  .inl (1, [none, some (some 17)]),
  .inr (.inr (3, 6, fun i => if i < 6 then some (18 + i) else none)),
  .inr (.inl (0, 180)),
  .inr (.inl (0, 180)),
  .inr (.inl (0, 180)),
  .inr (.inl (0, 180)),
  .inr (.inl (0, 180)),
  .inr (.inl (0, 180)),
  .inl (0, [none, some (some 25), some (some 26), some (some 27), some (some 28)]),
  .inr (.inl (0, 180)),
  .inr (.inl (0, 180)),
  .inr (.inl (0, 180)),
  .inr (.inl (0, 180)),
  .inr (.inl (0, 6)),
  .inr (.inr (2, 4, fun i => if i < 4 then some (31 + i) else none)),
  .inl (5, [none, none, none, some (some 35)]),
  .inl (5, [none, none, none, some (some 36)]),
  .inl (5, [none, none, none, some (some 37)]),
  .inl (5, [none, none, none, some (some 38)]),
  .inr (.inl (0, 50)),
  .inr (.inl (0, 50)),
  .inr (.inl (0, 50)),
  .inr (.inl (0, 50))]
def shM : List kE := [
  .inl (7, [none, none, some (some 1), some (some 2), some (some 3), none, some (some 4), some (some 5), some (some 6), some (some 7), none, none, some (some 8), some (some 9), some (some 10), none, some (some 11), some (some 12), some (some 13), some (some 14), none, some (some 15), none, none, some (some 16), some (some 17), some (some 18), some (some 19), none, some (some 20), some (some 21), some (some 22), some (some 23), some (some 24), some (some 25), none, some (some 26), some (some 27), some (some 28)]),
  .inr (.inl (0, 4)),
  .inr (.inl (0, 4)),
  .inr (.inl (0, 200)),
  .inr (.inl (0, 6)),
  .inr (.inl (0, 6)),
  .inr (.inl (0, 12)),
  .inr (.inl (1, 6)),
  .inr (.inl (0, 6)),
  .inr (.inl (0, 6)),
  .inr (.inl (0, 12)),
  .inr (.inl (0, 9)),
  .inr (.inl (0, 9)),
  .inr (.inl (0, 9)),
  .inr (.inl (0, 9)),
  .inr (.inl (0, 6)),
  .inr (.inl (0, 200)),
  .inr (.inl (0, 200)),
  .inr (.inl (0, 200)),
  .inr (.inl (0, 200)),
  .inr (.inl (0, 200)),
  .inr (.inl (0, 200)),
  .inr (.inl (0, 200)),
  .inr (.inl (0, 200)),
  .inr (.inl (0, 200)),
  .inr (.inl (0, 200)),
  .inr (.inl (0, 8)),
  .inr (.inl (0, 8)),
  .inr (.inl (1, 8))]
