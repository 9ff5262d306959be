theorem in_X0 : ∀ w ∈ u_ws RX0 TX0 5, w ∈ cw := by
  intro w hw
  obtain ⟨k, hk, rfl⟩ := List.mem_map.mp hw
  have hk := List.mem_range.mp hk
  rcases (show k = 0 ∨ k = 1 ∨ k = 2 ∨ k = 3 ∨ k = 4 by omega) with rfl | rfl | rfl | rfl | rfl
  · exact cw_1 76 rfl rfl
  · exact cw_1 78 rfl rfl
  · exact cw_1 80 rfl rfl
  · exact cw_1 82 rfl rfl
  · exact cw_1 84 rfl rfl
theorem gs_X0_0 : k_fst 0 0 .int := ⟨RX0, TX0, 5, tyX0, rfl, tyX0_ok, nmX0, rfl, rfl⟩
theorem in_X1 : ∀ w ∈ u_ws RX1 TX1 2, w ∈ cw := by
  intro w hw
  obtain ⟨k, hk, rfl⟩ := List.mem_map.mp hw
  have hk := List.mem_range.mp hk
  rcases (show k = 0 ∨ k = 1 by omega) with rfl | rfl
  · exact cw_1 126 rfl rfl
  · exact cw_1 128 rfl rfl
theorem gs_X1_0 : k_fst 1 0 .int := ⟨RX1, TX1, 2, tyX1, rfl, tyX1_ok, nmX1, rfl, rfl⟩
theorem in_X2 : ∀ w ∈ u_ws RX2 TX2 6, w ∈ cw := by
  intro w hw
  obtain ⟨k, hk, rfl⟩ := List.mem_map.mp hw
  have hk := List.mem_range.mp hk
  rcases (show k = 0 ∨ k = 1 ∨ k = 2 ∨ k = 3 ∨ k = 4 ∨ k = 5 by omega) with rfl | rfl | rfl | rfl | rfl | rfl
  · exact cw_1 45 rfl rfl
  · exact cw_1 47 rfl rfl
  · exact cw_1 49 rfl rfl
  · exact cw_1 51 rfl rfl
  · exact cw_1 53 rfl rfl
  · exact cw_1 55 rfl rfl
theorem gs_X2_0 : k_fst 2 0 .int := ⟨RX2, TX2, 6, tyX2, rfl, tyX2_ok, nmX2, rfl, rfl⟩
theorem gs_X2_1 : k_fst 2 1 .int := ⟨RX2, TX2, 6, tyX2, rfl, tyX2_ok, nmX2, rfl, rfl⟩
theorem in_X3 : ∀ w ∈ u_ws RX3 TX3 4, w ∈ cw := by
  intro w hw
  obtain ⟨k, hk, rfl⟩ := List.mem_map.mp hw
  have hk := List.mem_range.mp hk
  rcases (show k = 0 ∨ k = 1 ∨ k = 2 ∨ k = 3 by omega) with rfl | rfl | rfl | rfl
  · exact cw_1 97 rfl rfl
  · exact cw_1 99 rfl rfl
  · exact cw_1 101 rfl rfl
  · exact cw_1 103 rfl rfl
theorem gs_X3_0 : k_fst 3 0 .int := ⟨RX3, TX3, 4, tyX3, rfl, tyX3_ok, nmX3, rfl, rfl⟩
theorem in_X4 : ∀ w ∈ u_ws RX4 TX4 11, w ∈ cw := by
  intro w hw
  obtain ⟨k, hk, rfl⟩ := List.mem_map.mp hw
  have hk := List.mem_range.mp hk
  rcases (show k = 0 ∨ k = 1 ∨ k = 2 ∨ k = 3 ∨ k = 4 ∨ k = 5 ∨ k = 6 ∨ k = 7 ∨ k = 8 ∨ k = 9 ∨ k = 10 by omega) with rfl | rfl | rfl | rfl | rfl | rfl | rfl | rfl | rfl | rfl | rfl
  · exact cw_1 145 rfl rfl
  · exact cw_1 147 rfl rfl
  · exact cw_1 149 rfl rfl
  · exact cw_1 151 rfl rfl
  · exact cw_1 153 rfl rfl
  · exact cw_1 155 rfl rfl
  · exact cw_1 157 rfl rfl
  · exact cw_1 159 rfl rfl
  · exact cw_1 161 rfl rfl
  · exact cw_1 163 rfl rfl
  · exact cw_1 165 rfl rfl
theorem gs_X4_1 : k_fst 4 1 .int := ⟨RX4, TX4, 11, tyX4, rfl, tyX4_ok, nmX4, rfl, rfl⟩
theorem gs_X4_5 : k_fst 4 5 .int := ⟨RX4, TX4, 11, tyX4, rfl, tyX4_ok, nmX4, rfl, rfl⟩
theorem gs_X4_7 : k_fst 4 7 .int := ⟨RX4, TX4, 11, tyX4, rfl, tyX4_ok, nmX4, rfl, rfl⟩
theorem gs_X4_8 : k_fst 4 8 .long := ⟨RX4, TX4, 11, tyX4, rfl, tyX4_ok, nmX4, rfl, rfl⟩
theorem gs_X4_9 : k_fst 4 9 .int := ⟨RX4, TX4, 11, tyX4, rfl, tyX4_ok, nmX4, rfl, rfl⟩
theorem gs_X4_10 : k_fst 4 10 .int := ⟨RX4, TX4, 11, tyX4, rfl, tyX4_ok, nmX4, rfl, rfl⟩
theorem in_X5 : ∀ w ∈ u_ws RX5 TX5 4, w ∈ cw := by
  intro w hw
  obtain ⟨k, hk, rfl⟩ := List.mem_map.mp hw
  have hk := List.mem_range.mp hk
  rcases (show k = 0 ∨ k = 1 ∨ k = 2 ∨ k = 3 by omega) with rfl | rfl | rfl | rfl
  · exact cw_1 182 rfl rfl
  · exact cw_1 184 rfl rfl
  · exact cw_1 186 rfl rfl
  · exact cw_1 188 rfl rfl
theorem gs_X5_0 : k_fst 5 0 .boolean := ⟨RX5, TX5, 4, tyX5, rfl, tyX5_ok, nmX5, rfl, rfl⟩
theorem gs_X5_1 : k_fst 5 1 .int := ⟨RX5, TX5, 4, tyX5, rfl, tyX5_ok, nmX5, rfl, rfl⟩
theorem gs_X5_2 : k_fst 5 2 .int := ⟨RX5, TX5, 4, tyX5, rfl, tyX5_ok, nmX5, rfl, rfl⟩
theorem in_X7 : ∀ w ∈ u_ws RX7 TX7 7, w ∈ cw := by
  intro w hw
  obtain ⟨k, hk, rfl⟩ := List.mem_map.mp hw
  have hk := List.mem_range.mp hk
  rcases (show k = 0 ∨ k = 1 ∨ k = 2 ∨ k = 3 ∨ k = 4 ∨ k = 5 ∨ k = 6 by omega) with rfl | rfl | rfl | rfl | rfl | rfl | rfl
  · exact cw_1 197 rfl rfl
  · exact cw_1 199 rfl rfl
  · exact cw_1 201 rfl rfl
  · exact cw_1 203 rfl rfl
  · exact cw_1 205 rfl rfl
  · exact cw_1 207 rfl rfl
  · exact cw_1 209 rfl rfl
theorem gs_X7_5 : k_fst 6 5 .int := ⟨RX7, TX7, 7, tyX7, rfl, tyX7_ok, nmX7, rfl, rfl⟩
theorem gs_X7_6 : k_fst 6 6 .int := ⟨RX7, TX7, 7, tyX7, rfl, tyX7_ok, nmX7, rfl, rfl⟩
theorem gf_X2_24 : k_fld RX2 24 2 0 := ⟨RX2, TX2, 6, rfl, in_X2, by decide, cw_1 25 rfl rfl⟩
theorem gf_X7_84 : k_fld RX7 84 2 0 := ⟨RX2, TX2, 6, rfl, in_X2, by decide, cw_1 26 rfl rfl⟩
theorem gf_X4_90 : k_fld RX4 90 2 0 := ⟨RX2, TX2, 6, rfl, in_X2, by decide, cw_1 27 rfl rfl⟩
theorem gf_X6_36 : k_fld RX6 36 2 0 := ⟨RX2, TX2, 6, rfl, in_X2, by decide, cw_1 28 rfl rfl⟩
theorem gf_X7_104 : k_fld RX7 104 2 1 := ⟨RX2, TX2, 6, rfl, in_X2, by decide, cw_1 29 rfl rfl⟩
theorem gf_X6_42 : k_fld RX6 42 2 1 := ⟨RX2, TX2, 6, rfl, in_X2, by decide, cw_1 30 rfl rfl⟩
theorem gf_X2_9 : k_fld RX2 9 2 2 := ⟨RX2, TX2, 6, rfl, in_X2, by decide, cw_1 31 rfl rfl⟩
theorem gf_X7_88 : k_fld RX7 88 2 2 := ⟨RX2, TX2, 6, rfl, in_X2, by decide, cw_1 32 rfl rfl⟩
theorem gf_X6_45 : k_fld RX6 45 2 2 := ⟨RX2, TX2, 6, rfl, in_X2, by decide, cw_1 33 rfl rfl⟩
theorem gf_X2_15 : k_fld RX2 15 2 3 := ⟨RX2, TX2, 6, rfl, in_X2, by decide, cw_1 34 rfl rfl⟩
theorem gf_X7_92 : k_fld RX7 92 2 3 := ⟨RX2, TX2, 6, rfl, in_X2, by decide, cw_1 35 rfl rfl⟩
theorem gf_X6_49 : k_fld RX6 49 2 3 := ⟨RX2, TX2, 6, rfl, in_X2, by decide, cw_1 36 rfl rfl⟩
theorem gf_X4_120 : k_fld RX4 120 2 3 := ⟨RX2, TX2, 6, rfl, in_X2, by decide, cw_1 37 rfl rfl⟩
theorem gf_X2_18 : k_fld RX2 18 2 4 := ⟨RX2, TX2, 6, rfl, in_X2, by decide, cw_1 38 rfl rfl⟩
theorem gf_X7_95 : k_fld RX7 95 2 4 := ⟨RX2, TX2, 6, rfl, in_X2, by decide, cw_1 39 rfl rfl⟩
theorem gf_X6_52 : k_fld RX6 52 2 4 := ⟨RX2, TX2, 6, rfl, in_X2, by decide, cw_1 40 rfl rfl⟩
theorem gf_X4_128 : k_fld RX4 128 2 4 := ⟨RX2, TX2, 6, rfl, in_X2, by decide, cw_1 41 rfl rfl⟩
theorem gf_X2_21 : k_fld RX2 21 2 5 := ⟨RX2, TX2, 6, rfl, in_X2, by decide, cw_1 42 rfl rfl⟩
theorem gf_X7_98 : k_fld RX7 98 2 5 := ⟨RX2, TX2, 6, rfl, in_X2, by decide, cw_1 43 rfl rfl⟩
theorem gf_X6_55 : k_fld RX6 55 2 5 := ⟨RX2, TX2, 6, rfl, in_X2, by decide, cw_1 44 rfl rfl⟩
theorem gf_X0_22 : k_fld RX0 22 0 0 := ⟨RX0, TX0, 5, rfl, in_X0, by decide, cw_1 65 rfl rfl⟩
theorem gf_X7_80 : k_fld RX7 80 0 0 := ⟨RX0, TX0, 5, rfl, in_X0, by decide, cw_1 66 rfl rfl⟩
theorem gf_X4_56 : k_fld RX4 56 0 0 := ⟨RX0, TX0, 5, rfl, in_X0, by decide, cw_1 67 rfl rfl⟩
theorem gf_X0_7 : k_fld RX0 7 0 1 := ⟨RX0, TX0, 5, rfl, in_X0, by decide, cw_1 68 rfl rfl⟩
theorem gf_X4_96 : k_fld RX4 96 0 1 := ⟨RX0, TX0, 5, rfl, in_X0, by decide, cw_1 69 rfl rfl⟩
theorem gf_X0_13 : k_fld RX0 13 0 2 := ⟨RX0, TX0, 5, rfl, in_X0, by decide, cw_1 70 rfl rfl⟩
theorem gf_X4_99 : k_fld RX4 99 0 2 := ⟨RX0, TX0, 5, rfl, in_X0, by decide, cw_1 71 rfl rfl⟩
theorem gf_X0_16 : k_fld RX0 16 0 3 := ⟨RX0, TX0, 5, rfl, in_X0, by decide, cw_1 72 rfl rfl⟩
theorem gf_X4_63 : k_fld RX4 63 0 3 := ⟨RX0, TX0, 5, rfl, in_X0, by decide, cw_1 73 rfl rfl⟩
theorem gf_X0_19 : k_fld RX0 19 0 4 := ⟨RX0, TX0, 5, rfl, in_X0, by decide, cw_1 74 rfl rfl⟩
theorem gf_X4_102 : k_fld RX4 102 0 4 := ⟨RX0, TX0, 5, rfl, in_X0, by decide, cw_1 75 rfl rfl⟩
theorem gf_X7_83 : k_fld RX7 83 3 0 := ⟨RX3, TX3, 4, rfl, in_X3, by decide, cw_1 93 rfl rfl⟩
theorem gf_X3_9 : k_fld RX3 9 3 1 := ⟨RX3, TX3, 4, rfl, in_X3, by decide, cw_1 94 rfl rfl⟩
theorem gf_X3_15 : k_fld RX3 15 3 2 := ⟨RX3, TX3, 4, rfl, in_X3, by decide, cw_1 95 rfl rfl⟩
theorem gf_X3_18 : k_fld RX3 18 3 3 := ⟨RX3, TX3, 4, rfl, in_X3, by decide, cw_1 96 rfl rfl⟩
theorem gf_X1_16 : k_fld RX1 16 1 0 := ⟨RX1, TX1, 2, rfl, in_X1, by decide, cw_1 121 rfl rfl⟩
theorem gf_X4_66 : k_fld RX4 66 1 0 := ⟨RX1, TX1, 2, rfl, in_X1, by decide, cw_1 122 rfl rfl⟩
theorem gf_X7_139 : k_fld RX7 139 1 0 := ⟨RX1, TX1, 2, rfl, in_X1, by decide, cw_1 123 rfl rfl⟩
theorem gf_X1_11 : k_fld RX1 11 1 1 := ⟨RX1, TX1, 2, rfl, in_X1, by decide, cw_1 124 rfl rfl⟩
theorem gf_X7_142 : k_fld RX7 142 1 1 := ⟨RX1, TX1, 2, rfl, in_X1, by decide, cw_1 125 rfl rfl⟩
theorem gf_X4_12 : k_fld RX4 12 4 0 := ⟨RX4, TX4, 11, rfl, in_X4, by decide, cw_1 133 rfl rfl⟩
theorem gf_X7_135 : k_fld RX7 135 4 0 := ⟨RX4, TX4, 11, rfl, in_X4, by decide, cw_1 134 rfl rfl⟩
theorem gf_X4_70 : k_fld RX4 70 4 1 := ⟨RX4, TX4, 11, rfl, in_X4, by decide, cw_1 135 rfl rfl⟩
theorem gf_X4_31 : k_fld RX4 31 4 2 := ⟨RX4, TX4, 11, rfl, in_X4, by decide, cw_1 136 rfl rfl⟩
theorem gf_X4_35 : k_fld RX4 35 4 3 := ⟨RX4, TX4, 11, rfl, in_X4, by decide, cw_1 137 rfl rfl⟩
theorem gf_X4_23 : k_fld RX4 23 4 4 := ⟨RX4, TX4, 11, rfl, in_X4, by decide, cw_1 138 rfl rfl⟩
theorem gf_X4_67 : k_fld RX4 67 4 5 := ⟨RX4, TX4, 11, rfl, in_X4, by decide, cw_1 139 rfl rfl⟩
theorem gf_X4_27 : k_fld RX4 27 4 6 := ⟨RX4, TX4, 11, rfl, in_X4, by decide, cw_1 140 rfl rfl⟩
theorem gf_X4_45 : k_fld RX4 45 4 7 := ⟨RX4, TX4, 11, rfl, in_X4, by decide, cw_1 141 rfl rfl⟩
theorem gf_X4_52 : k_fld RX4 52 4 8 := ⟨RX4, TX4, 11, rfl, in_X4, by decide, cw_1 142 rfl rfl⟩
theorem gf_X4_49 : k_fld RX4 49 4 9 := ⟨RX4, TX4, 11, rfl, in_X4, by decide, cw_1 143 rfl rfl⟩
theorem gf_X4_83 : k_fld RX4 83 4 10 := ⟨RX4, TX4, 11, rfl, in_X4, by decide, cw_1 144 rfl rfl⟩
theorem gf_X5_15 : k_fld RX5 15 5 0 := ⟨RX5, TX5, 4, rfl, in_X5, by decide, cw_1 175 rfl rfl⟩
theorem gf_X7_193 : k_fld RX7 193 5 0 := ⟨RX5, TX5, 4, rfl, in_X5, by decide, cw_1 176 rfl rfl⟩
theorem gf_X5_19 : k_fld RX5 19 5 1 := ⟨RX5, TX5, 4, rfl, in_X5, by decide, cw_1 177 rfl rfl⟩
theorem gf_X7_203 : k_fld RX7 203 5 1 := ⟨RX5, TX5, 4, rfl, in_X5, by decide, cw_1 178 rfl rfl⟩
theorem gf_X5_32 : k_fld RX5 32 5 2 := ⟨RX5, TX5, 4, rfl, in_X5, by decide, cw_1 179 rfl rfl⟩
theorem gf_X5_9 : k_fld RX5 9 5 3 := ⟨RX5, TX5, 4, rfl, in_X5, by decide, cw_1 180 rfl rfl⟩
theorem gf_X7_200 : k_fld RX7 200 5 3 := ⟨RX5, TX5, 4, rfl, in_X5, by decide, cw_1 181 rfl rfl⟩
theorem gf_X7_14 : k_fld RX7 14 6 0 := ⟨RX7, TX7, 7, rfl, in_X7, by decide, cw_1 191 rfl rfl⟩
theorem gf_X7_23 : k_fld RX7 23 6 1 := ⟨RX7, TX7, 7, rfl, in_X7, by decide, cw_1 192 rfl rfl⟩
theorem gf_X7_30 : k_fld RX7 30 6 2 := ⟨RX7, TX7, 7, rfl, in_X7, by decide, cw_1 193 rfl rfl⟩
theorem gf_X7_39 : k_fld RX7 39 6 3 := ⟨RX7, TX7, 7, rfl, in_X7, by decide, cw_1 194 rfl rfl⟩
theorem gf_X7_45 : k_fld RX7 45 6 4 := ⟨RX7, TX7, 7, rfl, in_X7, by decide, cw_1 195 rfl rfl⟩
theorem gf_X7_50 : k_fld RX7 50 6 6 := ⟨RX7, TX7, 7, rfl, in_X7, by decide, cw_1 196 rfl rfl⟩
theorem lk_L_51 : k_lkV RL 51 yX7_coast cX7_coast 8 (some .int) 4 := ⟨⟨cw_1 212 rfl rfl, cw_1 1 rfl rfl, cw_1 215 rfl rfl, by decide +kernel, by decide +kernel, by decide +kernel⟩, cw_1 213 rfl rfl, cw_1 214 rfl rfl⟩
theorem lk_X7_54 : k_lkV RX7 54 yX7_sheetOf cX7_sheetOf 2 (some (.object "DuelSeconds$Sheet")) 1 := ⟨⟨cw_1 216 rfl rfl, cw_1 1 rfl rfl, cw_1 219 rfl rfl, by decide +kernel, by decide +kernel, by decide +kernel⟩, cw_1 218 rfl rfl, cw_0 0 rfl rfl⟩
theorem lk_X7_58 : k_lkS RX7 58 yX7_isLane cX7_isLane 1 (some .boolean) 1 := ⟨⟨cw_1 220 rfl rfl, cw_1 1 rfl rfl, cw_1 222 rfl rfl, by decide +kernel, by decide +kernel, by decide +kernel⟩, cw_1 221 rfl rfl⟩
theorem lk_X7_62 : k_lkV RX7 62 yX5_faultOfTaking cX5_faultOfTaking 4 (some .int) 3 := ⟨⟨cw_1 223 rfl rfl, cw_1 7 rfl rfl, cw_1 226 rfl rfl, by decide +kernel, by decide +kernel, by decide +kernel⟩, cw_1 224 rfl rfl, cw_1 225 rfl rfl⟩
theorem lk_X5_41 : k_lkV RX5 41 yX5_holds cX5_holds 3 (some .boolean) 2 := ⟨⟨cw_1 227 rfl rfl, cw_1 7 rfl rfl, cw_1 230 rfl rfl, by decide +kernel, by decide +kernel, by decide +kernel⟩, cw_1 228 rfl rfl, cw_1 229 rfl rfl⟩
theorem lk_X7_66 : k_lkV RX7 66 yX7_faulted cX7_faulted 2 (some .int) 1 := ⟨⟨cw_1 231 rfl rfl, cw_1 1 rfl rfl, cw_1 234 rfl rfl, by decide +kernel, by decide +kernel, by decide +kernel⟩, cw_1 233 rfl rfl, cw_0 1 rfl rfl⟩
theorem lk_X7_70 : k_lkS RX7 70 yX6_firstFault cX6_firstFault 4 (some .int) 3 := ⟨⟨cw_1 235 rfl rfl, cw_1 10 rfl rfl, cw_1 237 rfl rfl, by decide +kernel, by decide +kernel, by decide +kernel⟩, cw_1 236 rfl rfl⟩
theorem lk_X6_9 : k_lkS RX6 9 yX6_goesOn cX6_goesOn 6 (some .boolean) 3 := ⟨⟨cw_1 238 rfl rfl, cw_1 10 rfl rfl, cw_2 0 rfl rfl, by decide +kernel, by decide +kernel, by decide +kernel⟩, cw_1 239 rfl rfl⟩
theorem lk_X6_15 : k_lkV RX6 15 yX5_at cX5_at 2 (some .int) 1 := ⟨⟨cw_2 1 rfl rfl, cw_1 7 rfl rfl, cw_2 4 rfl rfl, by decide +kernel, by decide +kernel, by decide +kernel⟩, cw_2 2 rfl rfl, cw_2 3 rfl rfl⟩
theorem lk_X6_21 : k_lkS RX6 21 yX6_digit cX6_digit 1 (some .int) 1 := ⟨⟨cw_2 5 rfl rfl, cw_1 10 rfl rfl, cw_2 7 rfl rfl, by decide +kernel, by decide +kernel, by decide +kernel⟩, cw_2 6 rfl rfl⟩
theorem lk_X6_24 : k_lkS RX6 24 yX6_kindOf cX6_kindOf 1 (some .int) 1 := ⟨⟨cw_2 8 rfl rfl, cw_1 10 rfl rfl, cw_2 10 rfl rfl, by decide +kernel, by decide +kernel, by decide +kernel⟩, cw_2 9 rfl rfl⟩
theorem lk_X7_76 : k_lkS RX7 76 yX6_read cX6_read 5 none 3 := ⟨⟨cw_2 11 rfl rfl, cw_1 10 rfl rfl, cw_2 13 rfl rfl, by decide +kernel, by decide +kernel, by decide +kernel⟩, cw_2 12 rfl rfl⟩
theorem lk_X6_27 : k_lkM_min RX6 27 := ⟨cw_2 14 rfl rfl, cw_2 15 rfl rfl, cw_1 8 rfl rfl, cw_2 16 rfl rfl⟩
theorem lk_X6_33 : k_lkM_max RX6 33 := ⟨cw_2 17 rfl rfl, cw_2 18 rfl rfl, cw_1 8 rfl rfl, cw_2 19 rfl rfl⟩
theorem lk_L_58 : k_lkV RL 58 yX7_ofPerson cX7_ofPerson 3 (some .int) 2 := ⟨⟨cw_2 20 rfl rfl, cw_1 1 rfl rfl, cw_2 23 rfl rfl, by decide +kernel, by decide +kernel, by decide +kernel⟩, cw_2 21 rfl rfl, cw_2 22 rfl rfl⟩
theorem lk_X7_85 : k_lkV RX7 85 yX2_has cX2_has 2 (some .boolean) 1 := ⟨⟨cw_2 24 rfl rfl, cw_1 2 rfl rfl, cw_2 27 rfl rfl, by decide +kernel, by decide +kernel, by decide +kernel⟩, cw_2 25 rfl rfl, cw_2 26 rfl rfl⟩
theorem lk_X7_101 : k_lkV RX7 101 yX2_touchiness cX2_touchiness 4 (some .int) 1 := ⟨⟨cw_2 28 rfl rfl, cw_1 2 rfl rfl, cw_2 31 rfl rfl, by decide +kernel, by decide +kernel, by decide +kernel⟩, cw_2 29 rfl rfl, cw_2 30 rfl rfl⟩
theorem lk_X2_32 : k_lkM_max RX2 32 := ⟨cw_2 32 rfl rfl, cw_2 18 rfl rfl, cw_1 8 rfl rfl, cw_2 19 rfl rfl⟩
theorem lk_X7_107 : k_lkS RX7 107 yX7_in cX7_in 2 (some .boolean) 2 := ⟨⟨cw_2 33 rfl rfl, cw_1 1 rfl rfl, cw_2 35 rfl rfl, by decide +kernel, by decide +kernel, by decide +kernel⟩, cw_2 34 rfl rfl⟩
theorem lk_L_32 : k_lkV RL 32 yX7_insult cX7_insult 5 (some .int) 4 := ⟨⟨cw_2 36 rfl rfl, cw_1 1 rfl rfl, cw_2 39 rfl rfl, by decide +kernel, by decide +kernel, by decide +kernel⟩, cw_2 37 rfl rfl, cw_2 38 rfl rfl⟩
theorem lk_X7_111 : k_lkV RX7 111 yX2_hasTwo cX2_hasTwo 3 (some .boolean) 2 := ⟨⟨cw_2 40 rfl rfl, cw_1 2 rfl rfl, cw_2 43 rfl rfl, by decide +kernel, by decide +kernel, by decide +kernel⟩, cw_2 41 rfl rfl, cw_2 42 rfl rfl⟩
theorem lk_X2_28 : k_lkV RX2 28 yX2_has cX2_has 2 (some .boolean) 1 := ⟨⟨cw_2 44 rfl rfl, cw_1 2 rfl rfl, cw_2 27 rfl rfl, by decide +kernel, by decide +kernel, by decide +kernel⟩, cw_2 25 rfl rfl, cw_2 26 rfl rfl⟩
theorem lk_X7_114 : k_lkS RX7 114 yX7_isDay cX7_isDay 1 (some .boolean) 1 := ⟨⟨cw_2 45 rfl rfl, cw_1 1 rfl rfl, cw_2 47 rfl rfl, by decide +kernel, by decide +kernel, by decide +kernel⟩, cw_2 46 rfl rfl⟩
theorem lk_X7_117 : k_lkV RX7 117 yX0_add cX0_add 5 none 4 := ⟨⟨cw_2 48 rfl rfl, cw_1 3 rfl rfl, cw_2 51 rfl rfl, by decide +kernel, by decide +kernel, by decide +kernel⟩, cw_2 49 rfl rfl, cw_2 50 rfl rfl⟩
theorem lk_L_28 : k_lkV RL 28 yX7_sorry cX7_sorry 2 (some .int) 1 := ⟨⟨cw_2 52 rfl rfl, cw_1 1 rfl rfl, cw_2 55 rfl rfl, by decide +kernel, by decide +kernel, by decide +kernel⟩, cw_2 53 rfl rfl, cw_2 54 rfl rfl⟩
theorem lk_L_36 : k_lkV RL 36 yX7_arrest cX7_arrest 3 (some .int) 2 := ⟨⟨cw_2 56 rfl rfl, cw_1 1 rfl rfl, cw_2 59 rfl rfl, by decide +kernel, by decide +kernel, by decide +kernel⟩, cw_2 57 rfl rfl, cw_2 58 rfl rfl⟩
theorem lk_X7_121 : k_lkS RX7 121 yX7_bit cX7_bit 1 (some .int) 1 := ⟨⟨cw_2 60 rfl rfl, cw_1 1 rfl rfl, cw_2 62 rfl rfl, by decide +kernel, by decide +kernel, by decide +kernel⟩, cw_2 61 rfl rfl⟩
theorem lk_L_71 : k_lkV RL 71 yX7_meetings cX7_meetings 2 (some .int) 1 := ⟨⟨cw_2 63 rfl rfl, cw_1 1 rfl rfl, cw_2 66 rfl rfl, by decide +kernel, by decide +kernel, by decide +kernel⟩, cw_2 64 rfl rfl, cw_2 65 rfl rfl⟩
theorem lk_X7_124 : k_lkS RX7 124 yX7_isDawn cX7_isDawn 1 (some .boolean) 1 := ⟨⟨cw_2 67 rfl rfl, cw_1 1 rfl rfl, cw_2 69 rfl rfl, by decide +kernel, by decide +kernel, by decide +kernel⟩, cw_2 68 rfl rfl⟩
theorem lk_X7_127 : k_lkV RX7 127 yX7_isEmpty cX7_isEmpty 1 (some .boolean) 0 := ⟨⟨cw_2 70 rfl rfl, cw_1 1 rfl rfl, cw_2 73 rfl rfl, by decide +kernel, by decide +kernel, by decide +kernel⟩, cw_2 72 rfl rfl, cw_0 2 rfl rfl⟩
theorem lk_X7_131 : k_lkV RX7 131 yX4_live cX4_live 5 none 3 := ⟨⟨cw_2 74 rfl rfl, cw_1 5 rfl rfl, cw_2 77 rfl rfl, by decide +kernel, by decide +kernel, by decide +kernel⟩, cw_2 75 rfl rfl, cw_2 76 rfl rfl⟩
theorem lk_X4_38 : k_lkV RX4 38 yX4_begin cX4_begin 4 none 2 := ⟨⟨cw_2 78 rfl rfl, cw_1 5 rfl rfl, cw_2 81 rfl rfl, by decide +kernel, by decide +kernel, by decide +kernel⟩, cw_2 79 rfl rfl, cw_2 80 rfl rfl⟩
theorem lk_X4_73 : k_lkS RX4 73 yJ7_fill_53178 cJ7_fill_53178 4 none 2 := ⟨⟨cw_2 83 rfl rfl, cw_1 9 rfl rfl, cw_2 85 rfl rfl, by decide +kernel, by decide +kernel, by decide +kernel⟩, cw_2 84 rfl rfl⟩
theorem lk_X4_42 : k_lkV RX4 42 yX4_pass cX4_pass 5 none 1 := ⟨⟨cw_2 86 rfl rfl, cw_1 5 rfl rfl, cw_2 89 rfl rfl, by decide +kernel, by decide +kernel, by decide +kernel⟩, cw_2 87 rfl rfl, cw_2 88 rfl rfl⟩
theorem lk_X4_79 : k_lkV RX4 79 yX4_freeAhead cX4_freeAhead 4 (some .int) 1 := ⟨⟨cw_2 90 rfl rfl, cw_1 5 rfl rfl, cw_2 93 rfl rfl, by decide +kernel, by decide +kernel, by decide +kernel⟩, cw_2 91 rfl rfl, cw_2 92 rfl rfl⟩
theorem lk_X4_86 : k_lkV RX4 86 yX4_answer cX4_answer 10 none 3 := ⟨⟨cw_2 95 rfl rfl, cw_1 5 rfl rfl, cw_2 98 rfl rfl, by decide +kernel, by decide +kernel, by decide +kernel⟩, cw_2 97 rfl rfl, cw_0 3 rfl rfl⟩
theorem lk_X4_105 : k_lkV RX4 105 yX2_touchiness cX2_touchiness 4 (some .int) 1 := ⟨⟨cw_2 99 rfl rfl, cw_1 2 rfl rfl, cw_2 31 rfl rfl, by decide +kernel, by decide +kernel, by decide +kernel⟩, cw_2 29 rfl rfl, cw_2 30 rfl rfl⟩
theorem lk_X4_108 : k_lkV RX4 108 yX2_secondAmong cX2_secondAmong 5 (some .int) 2 := ⟨⟨cw_2 100 rfl rfl, cw_1 2 rfl rfl, cw_2 103 rfl rfl, by decide +kernel, by decide +kernel, by decide +kernel⟩, cw_2 101 rfl rfl, cw_2 102 rfl rfl⟩
theorem lk_X4_112 : k_lkV RX4 112 yX4_shoot cX4_shoot 9 (some .int) 3 := ⟨⟨cw_2 105 rfl rfl, cw_1 5 rfl rfl, cw_2 108 rfl rfl, by decide +kernel, by decide +kernel, by decide +kernel⟩, cw_2 107 rfl rfl, cw_0 4 rfl rfl⟩
theorem lk_X4_123 : k_lkM_abs RX4 123 := ⟨cw_2 109 rfl rfl, cw_2 110 rfl rfl, cw_1 8 rfl rfl, cw_2 111 rfl rfl⟩
theorem lk_X4_131 : k_lkV RX4 131 yX0_add cX0_add 5 none 4 := ⟨⟨cw_2 112 rfl rfl, cw_1 3 rfl rfl, cw_2 51 rfl rfl, by decide +kernel, by decide +kernel, by decide +kernel⟩, cw_2 49 rfl rfl, cw_2 50 rfl rfl⟩
theorem lk_X4_116 : k_lkV RX4 116 yX1_add cX1_add 7 none 6 := ⟨⟨cw_2 113 rfl rfl, cw_1 6 rfl rfl, cw_2 116 rfl rfl, by decide +kernel, by decide +kernel, by decide +kernel⟩, cw_2 114 rfl rfl, cw_2 115 rfl rfl⟩
theorem lk_L_68 : k_lkV RL 68 yX7_met cX7_met 3 (some .int) 2 := ⟨⟨cw_2 117 rfl rfl, cw_1 1 rfl rfl, cw_2 120 rfl rfl, by decide +kernel, by decide +kernel, by decide +kernel⟩, cw_2 118 rfl rfl, cw_2 119 rfl rfl⟩
theorem lk_L_74 : k_lkV RL 74 yX7_free cX7_free 3 (some .int) 2 := ⟨⟨cw_2 121 rfl rfl, cw_1 1 rfl rfl, cw_2 124 rfl rfl, by decide +kernel, by decide +kernel, by decide +kernel⟩, cw_2 122 rfl rfl, cw_2 123 rfl rfl⟩
theorem lk_X7_146 : k_lkV RX7 146 yX4_freeAhead cX4_freeAhead 4 (some .int) 1 := ⟨⟨cw_2 125 rfl rfl, cw_1 5 rfl rfl, cw_2 93 rfl rfl, by decide +kernel, by decide +kernel, by decide +kernel⟩, cw_2 91 rfl rfl, cw_2 92 rfl rfl⟩
theorem lk_L_77 : k_lkV RL 77 yX7_second cX7_second 4 (some .int) 3 := ⟨⟨cw_2 126 rfl rfl, cw_1 1 rfl rfl, cw_2 129 rfl rfl, by decide +kernel, by decide +kernel, by decide +kernel⟩, cw_2 127 rfl rfl, cw_2 128 rfl rfl⟩
theorem lk_X7_149 : k_lkV RX7 149 yX2_secondAmong cX2_secondAmong 5 (some .int) 2 := ⟨⟨cw_2 130 rfl rfl, cw_1 2 rfl rfl, cw_2 103 rfl rfl, by decide +kernel, by decide +kernel, by decide +kernel⟩, cw_2 101 rfl rfl, cw_2 102 rfl rfl⟩
theorem lk_L_79 : k_lkV RL 79 yX7_worth cX7_worth 3 (some .int) 1 := ⟨⟨cw_2 131 rfl rfl, cw_1 1 rfl rfl, cw_2 134 rfl rfl, by decide +kernel, by decide +kernel, by decide +kernel⟩, cw_2 132 rfl rfl, cw_2 133 rfl rfl⟩
theorem lk_L_82 : k_lkV RL 82 yX7_row cX7_row 8 (some .int) 4 := ⟨⟨cw_2 135 rfl rfl, cw_1 1 rfl rfl, cw_2 138 rfl rfl, by decide +kernel, by decide +kernel, by decide +kernel⟩, cw_2 136 rfl rfl, cw_2 137 rfl rfl⟩
theorem lk_X7_177 : k_lkV RX7 177 yX5_at cX5_at 2 (some .int) 1 := ⟨⟨cw_2 139 rfl rfl, cw_1 7 rfl rfl, cw_2 4 rfl rfl, by decide +kernel, by decide +kernel, by decide +kernel⟩, cw_2 2 rfl rfl, cw_2 3 rfl rfl⟩
theorem lk_X7_180 : k_lkV RX7 180 yX7_freeInTurn cX7_freeInTurn 5 (some .int) 3 := ⟨⟨cw_2 140 rfl rfl, cw_1 1 rfl rfl, cw_2 143 rfl rfl, by decide +kernel, by decide +kernel, by decide +kernel⟩, cw_2 142 rfl rfl, cw_0 5 rfl rfl⟩
theorem lk_X7_183 : k_lkV RX7 183 yX4_begin cX4_begin 4 none 2 := ⟨⟨cw_2 144 rfl rfl, cw_1 5 rfl rfl, cw_2 81 rfl rfl, by decide +kernel, by decide +kernel, by decide +kernel⟩, cw_2 79 rfl rfl, cw_2 80 rfl rfl⟩
theorem lk_X7_187 : k_lkV RX7 187 yX4_pass cX4_pass 5 none 1 := ⟨⟨cw_2 145 rfl rfl, cw_1 5 rfl rfl, cw_2 89 rfl rfl, by decide +kernel, by decide +kernel, by decide +kernel⟩, cw_2 87 rfl rfl, cw_2 88 rfl rfl⟩
theorem lk_L_19 : k_lkV RL 19 yX7_sheet cX7_sheet 5 (some .int) 3 := ⟨⟨cw_2 146 rfl rfl, cw_1 1 rfl rfl, cw_2 149 rfl rfl, by decide +kernel, by decide +kernel, by decide +kernel⟩, cw_2 147 rfl rfl, cw_2 148 rfl rfl⟩
theorem lk_X7_190 : k_lkV RX7 190 yX5_renew cX5_renew 3 none 2 := ⟨⟨cw_2 150 rfl rfl, cw_1 7 rfl rfl, cw_2 153 rfl rfl, by decide +kernel, by decide +kernel, by decide +kernel⟩, cw_2 151 rfl rfl, cw_2 152 rfl rfl⟩
theorem lk_X5_23 : k_lkM_min RX5 23 := ⟨cw_2 154 rfl rfl, cw_2 15 rfl rfl, cw_1 8 rfl rfl, cw_2 16 rfl rfl⟩
theorem lk_X5_29 : k_lkM_max RX5 29 := ⟨cw_2 155 rfl rfl, cw_2 18 rfl rfl, cw_1 8 rfl rfl, cw_2 19 rfl rfl⟩
theorem lk_X5_35 : k_lkS RX5 35 yJ7_fill_53178 cJ7_fill_53178 4 none 2 := ⟨⟨cw_2 156 rfl rfl, cw_1 9 rfl rfl, cw_2 85 rfl rfl, by decide +kernel, by decide +kernel, by decide +kernel⟩, cw_2 84 rfl rfl⟩
theorem lk_L_25 : k_lkV RL 25 yX7_put cX7_put 5 (some .int) 3 := ⟨⟨cw_2 157 rfl rfl, cw_1 1 rfl rfl, cw_2 160 rfl rfl, by decide +kernel, by decide +kernel, by decide +kernel⟩, cw_2 158 rfl rfl, cw_2 159 rfl rfl⟩
theorem lk_X7_197 : k_lkV RX7 197 yX5_holds cX5_holds 3 (some .boolean) 2 := ⟨⟨cw_2 161 rfl rfl, cw_1 7 rfl rfl, cw_1 230 rfl rfl, by decide +kernel, by decide +kernel, by decide +kernel⟩, cw_1 228 rfl rfl, cw_1 229 rfl rfl⟩
theorem lk_X7_206 : k_lkS RX7 206 yX7_cut cX7_cut 2 (some .int) 2 := ⟨⟨cw_2 162 rfl rfl, cw_1 1 rfl rfl, cw_2 164 rfl rfl, by decide +kernel, by decide +kernel, by decide +kernel⟩, cw_2 163 rfl rfl⟩
theorem lk_L_65 : k_lkV RL 65 yX7_many cX7_many 2 (some .int) 1 := ⟨⟨cw_2 165 rfl rfl, cw_1 1 rfl rfl, cw_2 168 rfl rfl, by decide +kernel, by decide +kernel, by decide +kernel⟩, cw_2 166 rfl rfl, cw_2 167 rfl rfl⟩
theorem lk_L_9 : k_lkS RL 9 yL_cell cL_cell 2 (some .int) 2 := ⟨⟨cw_2 169 rfl rfl, cw_1 0 rfl rfl, cw_2 171 rfl rfl, by decide +kernel, by decide +kernel, by decide +kernel⟩, cw_2 170 rfl rfl⟩
theorem lk_L_15 : k_lkS RL 15 yL_some cL_some 2 (some .int) 2 := ⟨⟨cw_2 173 rfl rfl, cw_1 0 rfl rfl, cw_2 175 rfl rfl, by decide +kernel, by decide +kernel, by decide +kernel⟩, cw_2 174 rfl rfl⟩
theorem lk_L_48 : k_lkS RL 48 yL_put cL_put 9 (some .int) 5 := ⟨⟨cw_2 177 rfl rfl, cw_1 0 rfl rfl, cw_2 179 rfl rfl, by decide +kernel, by decide +kernel, by decide +kernel⟩, cw_2 178 rfl rfl⟩
theorem lk_L_54 : k_lkS RL 54 yL_change cL_change 11 (some .boolean) 5 := ⟨⟨cw_2 180 rfl rfl, cw_1 0 rfl rfl, cw_2 182 rfl rfl, by decide +kernel, by decide +kernel, by decide +kernel⟩, cw_2 181 rfl rfl⟩
theorem lk_L_40 : k_lkS RL 40 yL_touchy cL_touchy 3 (some .int) 2 := ⟨⟨cw_2 183 rfl rfl, cw_1 0 rfl rfl, cw_2 185 rfl rfl, by decide +kernel, by decide +kernel, by decide +kernel⟩, cw_2 184 rfl rfl⟩
theorem lk_L_43 : k_lkS RL 43 yL_second cL_second 8 (some .int) 6 := ⟨⟨cw_2 186 rfl rfl, cw_1 0 rfl rfl, cw_2 188 rfl rfl, by decide +kernel, by decide +kernel, by decide +kernel⟩, cw_2 187 rfl rfl⟩
theorem lk_L_61 : k_lkS RL 61 yL_go cL_go 21 none 8 := ⟨⟨cw_2 189 rfl rfl, cw_1 0 rfl rfl, cw_2 191 rfl rfl, by decide +kernel, by decide +kernel, by decide +kernel⟩, cw_2 190 rfl rfl⟩
theorem lk_X4_59 : k_lkN RX4 59 yX7_in cX7_in 2 (some .boolean) 2 := ⟨RX7, List.mem_of_getElem? (i := 4) rfl, cw_1 1 rfl rfl, cw_2 35 rfl rfl, ⟨by decide +kernel, by decide +kernel, by decide +kernel⟩, cw_2 34 rfl rfl⟩
theorem lk_X4_93 : k_lkN RX4 93 yX7_bit cX7_bit 1 (some .int) 1 := ⟨RX7, List.mem_of_getElem? (i := 5) rfl, cw_1 1 rfl rfl, cw_2 62 rfl rfl, ⟨by decide +kernel, by decide +kernel, by decide +kernel⟩, cw_2 61 rfl rfl⟩
theorem lk_X2_38 : k_lkN RX2 38 yX7_in cX7_in 2 (some .boolean) 2 := ⟨RX7, List.mem_of_getElem? (i := 6) rfl, cw_1 1 rfl rfl, cw_2 35 rfl rfl, ⟨by decide +kernel, by decide +kernel, by decide +kernel⟩, cw_2 34 rfl rfl⟩
theorem lc_L_7 : Cond.constant RL 7 (747796405) ∈ cw := cw_2 172 rfl rfl
theorem lc_L_8 : Cond.constant RL 8 (2147483647) ∈ cw := cw_2 176 rfl rfl
def shC : List kE := [
  .inl (6, [some (some 1), some (some 6), some (some 11), some (some 15), some (some 30), none, none]),
  .inl (2, [none, none, some (some 2), some (some 3), some (some 4), some (some 5)]),
  .inr (.inl (0, 6)),
  .inr (.inl (0, 6)),
  .inr (.inl (0, 6)),
  .inr (.inl (0, 6)),
  .inl (0, [none, some (some 7), some (some 8), some (some 9), some (some 10)]),
  .inr (.inl (0, 9)),
  .inr (.inl (0, 9)),
  .inr (.inl (0, 9)),
  .inr (.inl (0, 9)),
  .inl (3, [none, some (some 12), some (some 13), some (some 14)]),
  .inr (.inl (0, 8)),
  .inr (.inl (0, 8)),
  .inr (.inl (1, 8)),
  .inl (4, [some (some 16), none, some (some 1), some (some 6), some (some 24), none, some (some 29), none, some none, none, none]),
  .inl (1, [none, some (some 17)]),
  .inr (.inr (3, 6, fun i => if i < 6 then some (18 + i) else none)),
  .inr (.inl (0, 180)),
  .inr (.inl (0, 180)),
  .inr (.inl (0, 180)),
  .inr (.inl (0, 180)),
  .inr (.inl (0, 180)),
  .inr (.inl (0, 180)),
  .inl (0, [none, some (some 25), some (some 26), some (some 27), some (some 28)]),
  .inr (.inl (0, 180)),
  .inr (.inl (0, 180)),
  .inr (.inl (0, 180)),
  .inr (.inl (0, 180)),
  .inr (.inl (0, 6)),
  .inr (.inr (2, 4, fun i => if i < 4 then some (31 + i) else none)),
  .inl (5, [none, none, none, some (some 35)]),
  .inl (5, [none, none, none, some (some 36)]),
  .inl (5, [none, none, none, some (some 37)]),
  .inl (5, [none, none, none, some (some 38)]),
  .inr (.inl (0, 50)),
  .inr (.inl (0, 50)),
  .inr (.inl (0, 50)),
  .inr (.inl (0, 50))]
def shG : List kE := shC ++ [
  .inr (.inl (0, 27))]
def shL : List kE := shC ++ [
  .inr (.inl (0, 27)),
  .inr (.inl (0, 36)),
  .inr (.inl (0, 19)),
  .inr (.inl (0, 24))]
