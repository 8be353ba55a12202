set_option maxRecDepth 20000 in
theorem wX0 : ∀ w ∈ u_ws RX0 TX0 6, w ∈ q_T := q_ms [128, 130, 132, 134, 136, 138] (by decide +kernel) (by decide +kernel)
set_option maxRecDepth 20000 in
theorem wX1 : ∀ w ∈ u_ws RX1 TX1 2, w ∈ q_T := q_ms [67, 69] (by decide +kernel) (by decide +kernel)
set_option maxRecDepth 20000 in
theorem wX2 : ∀ w ∈ u_ws RX2 TX2 8, w ∈ q_T := q_ms [203, 205, 207, 209, 211, 213, 215, 217] (by decide +kernel) (by decide +kernel)
set_option maxRecDepth 20000 in
theorem wX3 : ∀ w ∈ u_ws RX3 TX3 9, w ∈ q_T := q_ms [166, 168, 170, 172, 174, 176, 178, 180, 182] (by decide +kernel) (by decide +kernel)
set_option maxRecDepth 20000 in
theorem wX4 : ∀ w ∈ u_ws RX4 TX4 4, w ∈ q_T := q_ms [89, 91, 93, 95] (by decide +kernel) (by decide +kernel)
set_option maxRecDepth 20000 in
theorem wX5 : ∀ w ∈ u_ws RX5 TX5 5, w ∈ q_T := q_ms [237, 239, 241, 243, 245] (by decide +kernel) (by decide +kernel)
set_option maxRecDepth 20000 in
theorem wX6 : ∀ w ∈ u_ws RX6 TX6 2, w ∈ q_T := q_ms [108, 110] (by decide +kernel) (by decide +kernel)
set_option maxRecDepth 20000 in
theorem wX7 : ∀ w ∈ u_ws RX7 TX7 10, w ∈ q_T := q_ms [258, 260, 262, 264, 266, 268, 270, 272, 274, 276] (by decide +kernel) (by decide +kernel)
set_option maxRecDepth 20000 in
theorem wX8 : ∀ w ∈ u_ws RX8 TX8 30, w ∈ q_T := q_ms [637, 639, 641, 643, 645, 647, 649, 651, 653, 655, 657, 659, 661, 663, 665, 667, 669, 671, 673, 675, 677, 679, 681, 683, 685, 687, 689, 691, 693, 695] (by decide +kernel) (by decide +kernel)
set_option maxRecDepth 20000 in
theorem f_X1_9 : q_fld RX1 9 1 2 0 (.array .int) true := ⟨RX1, TX1, tyX1, rfl, wX1, tyX1_ok, nmX1, by decide, q_mm 62 (by decide +kernel) (by decide +kernel), rfl, rfl, rfl⟩
set_option maxRecDepth 20000 in
theorem f_X7_77 : q_fld RX7 77 1 2 0 (.array .int) true := ⟨RX1, TX1, tyX1, rfl, wX1, tyX1_ok, nmX1, by decide, q_mm 63 (by decide +kernel) (by decide +kernel), rfl, rfl, rfl⟩
set_option maxRecDepth 20000 in
theorem f_X3_59 : q_fld RX3 59 1 2 0 (.array .int) true := ⟨RX1, TX1, tyX1, rfl, wX1, tyX1_ok, nmX1, by decide, q_mm 64 (by decide +kernel) (by decide +kernel), rfl, rfl, rfl⟩
set_option maxRecDepth 20000 in
theorem f_X1_15 : q_fld RX1 15 1 2 1 (.array .int) true := ⟨RX1, TX1, tyX1, rfl, wX1, tyX1_ok, nmX1, by decide, q_mm 65 (by decide +kernel) (by decide +kernel), rfl, rfl, rfl⟩
set_option maxRecDepth 20000 in
theorem f_X7_87 : q_fld RX7 87 1 2 1 (.array .int) true := ⟨RX1, TX1, tyX1, rfl, wX1, tyX1_ok, nmX1, by decide, q_mm 66 (by decide +kernel) (by decide +kernel), rfl, rfl, rfl⟩
set_option maxRecDepth 20000 in
theorem f_X4_9 : q_fld RX4 9 4 4 0 (.array .int) true := ⟨RX4, TX4, tyX4, rfl, wX4, tyX4_ok, nmX4, by decide, q_mm 79 (by decide +kernel) (by decide +kernel), rfl, rfl, rfl⟩
set_option maxRecDepth 20000 in
theorem f_X3_56 : q_fld RX3 56 4 4 0 (.array .int) true := ⟨RX4, TX4, tyX4, rfl, wX4, tyX4_ok, nmX4, by decide, q_mm 80 (by decide +kernel) (by decide +kernel), rfl, rfl, rfl⟩
set_option maxRecDepth 20000 in
theorem f_X4_15 : q_fld RX4 15 4 4 1 (.array .int) true := ⟨RX4, TX4, tyX4, rfl, wX4, tyX4_ok, nmX4, by decide, q_mm 81 (by decide +kernel) (by decide +kernel), rfl, rfl, rfl⟩
set_option maxRecDepth 20000 in
theorem f_X3_77 : q_fld RX3 77 4 4 1 (.array .int) true := ⟨RX4, TX4, tyX4, rfl, wX4, tyX4_ok, nmX4, by decide, q_mm 82 (by decide +kernel) (by decide +kernel), rfl, rfl, rfl⟩
set_option maxRecDepth 20000 in
theorem f_X7_97 : q_fld RX7 97 4 4 1 (.array .int) true := ⟨RX4, TX4, tyX4, rfl, wX4, tyX4_ok, nmX4, by decide, q_mm 83 (by decide +kernel) (by decide +kernel), rfl, rfl, rfl⟩
set_option maxRecDepth 20000 in
theorem f_X4_18 : q_fld RX4 18 4 4 2 (.array .int) true := ⟨RX4, TX4, tyX4, rfl, wX4, tyX4_ok, nmX4, by decide, q_mm 84 (by decide +kernel) (by decide +kernel), rfl, rfl, rfl⟩
set_option maxRecDepth 20000 in
theorem f_X7_100 : q_fld RX7 100 4 4 2 (.array .int) true := ⟨RX4, TX4, tyX4, rfl, wX4, tyX4_ok, nmX4, by decide, q_mm 85 (by decide +kernel) (by decide +kernel), rfl, rfl, rfl⟩
set_option maxRecDepth 20000 in
theorem f_X4_21 : q_fld RX4 21 4 4 3 .int false := ⟨RX4, TX4, tyX4, rfl, wX4, tyX4_ok, nmX4, by decide, q_mm 86 (by decide +kernel) (by decide +kernel), rfl, rfl, rfl⟩
set_option maxRecDepth 20000 in
theorem f_X3_50 : q_fld RX3 50 4 4 3 .int false := ⟨RX4, TX4, tyX4, rfl, wX4, tyX4_ok, nmX4, by decide, q_mm 87 (by decide +kernel) (by decide +kernel), rfl, rfl, rfl⟩
set_option maxRecDepth 20000 in
theorem f_X7_130 : q_fld RX7 130 4 4 3 .int false := ⟨RX4, TX4, tyX4, rfl, wX4, tyX4_ok, nmX4, by decide, q_mm 88 (by decide +kernel) (by decide +kernel), rfl, rfl, rfl⟩
set_option maxRecDepth 20000 in
theorem f_X6_9 : q_fld RX6 9 6 2 0 (.array .byte) true := ⟨RX6, TX6, tyX6, rfl, wX6, tyX6_ok, nmX6, by decide, q_mm 104 (by decide +kernel) (by decide +kernel), rfl, rfl, rfl⟩
set_option maxRecDepth 20000 in
theorem f_X6_15 : q_fld RX6 15 6 2 1 .int false := ⟨RX6, TX6, tyX6, rfl, wX6, tyX6_ok, nmX6, by decide, q_mm 105 (by decide +kernel) (by decide +kernel), rfl, rfl, rfl⟩
set_option maxRecDepth 20000 in
theorem f_X0_27 : q_fld RX0 27 6 2 1 .int false := ⟨RX6, TX6, tyX6, rfl, wX6, tyX6_ok, nmX6, by decide, q_mm 106 (by decide +kernel) (by decide +kernel), rfl, rfl, rfl⟩
set_option maxRecDepth 20000 in
theorem f_X7_109 : q_fld RX7 109 6 2 1 .int false := ⟨RX6, TX6, tyX6, rfl, wX6, tyX6_ok, nmX6, by decide, q_mm 107 (by decide +kernel) (by decide +kernel), rfl, rfl, rfl⟩
set_option maxRecDepth 20000 in
theorem f_X0_20 : q_fld RX0 20 0 6 0 .int false := ⟨RX0, TX0, tyX0, rfl, wX0, tyX0_ok, nmX0, by decide, q_mm 120 (by decide +kernel) (by decide +kernel), rfl, rfl, rfl⟩
set_option maxRecDepth 20000 in
theorem f_X7_124 : q_fld RX7 124 0 6 0 .int false := ⟨RX0, TX0, tyX0, rfl, wX0, tyX0_ok, nmX0, by decide, q_mm 121 (by decide +kernel) (by decide +kernel), rfl, rfl, rfl⟩
set_option maxRecDepth 20000 in
theorem f_X0_9 : q_fld RX0 9 0 6 1 .int false := ⟨RX0, TX0, tyX0, rfl, wX0, tyX0_ok, nmX0, by decide, q_mm 122 (by decide +kernel) (by decide +kernel), rfl, rfl, rfl⟩
set_option maxRecDepth 20000 in
theorem f_X7_127 : q_fld RX7 127 0 6 1 .int false := ⟨RX0, TX0, tyX0, rfl, wX0, tyX0_ok, nmX0, by decide, q_mm 123 (by decide +kernel) (by decide +kernel), rfl, rfl, rfl⟩
set_option maxRecDepth 20000 in
theorem f_X0_43 : q_fld RX0 43 0 6 2 .int false := ⟨RX0, TX0, tyX0, rfl, wX0, tyX0_ok, nmX0, by decide, q_mm 124 (by decide +kernel) (by decide +kernel), rfl, rfl, rfl⟩
set_option maxRecDepth 20000 in
theorem f_X0_46 : q_fld RX0 46 0 6 3 .int false := ⟨RX0, TX0, tyX0, rfl, wX0, tyX0_ok, nmX0, by decide, q_mm 125 (by decide +kernel) (by decide +kernel), rfl, rfl, rfl⟩
set_option maxRecDepth 20000 in
theorem f_X0_49 : q_fld RX0 49 0 6 4 .int false := ⟨RX0, TX0, tyX0, rfl, wX0, tyX0_ok, nmX0, by decide, q_mm 126 (by decide +kernel) (by decide +kernel), rfl, rfl, rfl⟩
set_option maxRecDepth 20000 in
theorem f_X0_52 : q_fld RX0 52 0 6 5 .int false := ⟨RX0, TX0, tyX0, rfl, wX0, tyX0_ok, nmX0, by decide, q_mm 127 (by decide +kernel) (by decide +kernel), rfl, rfl, rfl⟩
set_option maxRecDepth 20000 in
theorem f_X3_11 : q_fld RX3 11 3 9 0 (.array (.array .int)) true := ⟨RX3, TX3, tyX3, rfl, wX3, tyX3_ok, nmX3, by decide, q_mm 149 (by decide +kernel) (by decide +kernel), rfl, rfl, rfl⟩
set_option maxRecDepth 20000 in
theorem f_X7_139 : q_fld RX7 139 3 9 0 (.array (.array .int)) true := ⟨RX3, TX3, tyX3, rfl, wX3, tyX3_ok, nmX3, by decide, q_mm 150 (by decide +kernel) (by decide +kernel), rfl, rfl, rfl⟩
set_option maxRecDepth 20000 in
theorem f_X3_16 : q_fld RX3 16 3 9 1 (.array (.array .int)) true := ⟨RX3, TX3, tyX3, rfl, wX3, tyX3_ok, nmX3, by decide, q_mm 151 (by decide +kernel) (by decide +kernel), rfl, rfl, rfl⟩
set_option maxRecDepth 20000 in
theorem f_X7_143 : q_fld RX7 143 3 9 1 (.array (.array .int)) true := ⟨RX3, TX3, tyX3, rfl, wX3, tyX3_ok, nmX3, by decide, q_mm 152 (by decide +kernel) (by decide +kernel), rfl, rfl, rfl⟩
set_option maxRecDepth 20000 in
theorem f_X3_19 : q_fld RX3 19 3 9 2 (.array (.array .int)) true := ⟨RX3, TX3, tyX3, rfl, wX3, tyX3_ok, nmX3, by decide, q_mm 153 (by decide +kernel) (by decide +kernel), rfl, rfl, rfl⟩
set_option maxRecDepth 20000 in
theorem f_X7_146 : q_fld RX7 146 3 9 2 (.array (.array .int)) true := ⟨RX3, TX3, tyX3, rfl, wX3, tyX3_ok, nmX3, by decide, q_mm 154 (by decide +kernel) (by decide +kernel), rfl, rfl, rfl⟩
set_option maxRecDepth 20000 in
theorem f_X3_22 : q_fld RX3 22 3 9 3 (.array (.array .int)) true := ⟨RX3, TX3, tyX3, rfl, wX3, tyX3_ok, nmX3, by decide, q_mm 155 (by decide +kernel) (by decide +kernel), rfl, rfl, rfl⟩
set_option maxRecDepth 20000 in
theorem f_X7_149 : q_fld RX7 149 3 9 3 (.array (.array .int)) true := ⟨RX3, TX3, tyX3, rfl, wX3, tyX3_ok, nmX3, by decide, q_mm 156 (by decide +kernel) (by decide +kernel), rfl, rfl, rfl⟩
set_option maxRecDepth 20000 in
theorem f_X3_25 : q_fld RX3 25 3 9 4 (.array (.array .int)) true := ⟨RX3, TX3, tyX3, rfl, wX3, tyX3_ok, nmX3, by decide, q_mm 157 (by decide +kernel) (by decide +kernel), rfl, rfl, rfl⟩
set_option maxRecDepth 20000 in
theorem f_X7_152 : q_fld RX7 152 3 9 4 (.array (.array .int)) true := ⟨RX3, TX3, tyX3, rfl, wX3, tyX3_ok, nmX3, by decide, q_mm 158 (by decide +kernel) (by decide +kernel), rfl, rfl, rfl⟩
set_option maxRecDepth 20000 in
theorem f_X3_28 : q_fld RX3 28 3 9 5 (.array (.array .int)) true := ⟨RX3, TX3, tyX3, rfl, wX3, tyX3_ok, nmX3, by decide, q_mm 159 (by decide +kernel) (by decide +kernel), rfl, rfl, rfl⟩
set_option maxRecDepth 20000 in
theorem f_X7_158 : q_fld RX7 158 3 9 5 (.array (.array .int)) true := ⟨RX3, TX3, tyX3, rfl, wX3, tyX3_ok, nmX3, by decide, q_mm 160 (by decide +kernel) (by decide +kernel), rfl, rfl, rfl⟩
set_option maxRecDepth 20000 in
theorem f_X3_31 : q_fld RX3 31 3 9 6 (.array .int) true := ⟨RX3, TX3, tyX3, rfl, wX3, tyX3_ok, nmX3, by decide, q_mm 161 (by decide +kernel) (by decide +kernel), rfl, rfl, rfl⟩
set_option maxRecDepth 20000 in
theorem f_X2_34 : q_fld RX2 34 3 9 6 (.array .int) true := ⟨RX3, TX3, tyX3, rfl, wX3, tyX3_ok, nmX3, by decide, q_mm 162 (by decide +kernel) (by decide +kernel), rfl, rfl, rfl⟩
set_option maxRecDepth 20000 in
theorem f_X7_155 : q_fld RX7 155 3 9 6 (.array .int) true := ⟨RX3, TX3, tyX3, rfl, wX3, tyX3_ok, nmX3, by decide, q_mm 163 (by decide +kernel) (by decide +kernel), rfl, rfl, rfl⟩
set_option maxRecDepth 20000 in
theorem f_X3_35 : q_fld RX3 35 3 9 7 (.array .int) true := ⟨RX3, TX3, tyX3, rfl, wX3, tyX3_ok, nmX3, by decide, q_mm 164 (by decide +kernel) (by decide +kernel), rfl, rfl, rfl⟩
set_option maxRecDepth 20000 in
theorem f_X3_38 : q_fld RX3 38 3 9 8 (.array .int) true := ⟨RX3, TX3, tyX3, rfl, wX3, tyX3_ok, nmX3, by decide, q_mm 165 (by decide +kernel) (by decide +kernel), rfl, rfl, rfl⟩
set_option maxRecDepth 20000 in
theorem f_X2_9 : q_fld RX2 9 2 8 0 (.array .int) true := ⟨RX2, TX2, tyX2, rfl, wX2, tyX2_ok, nmX2, by decide, q_mm 191 (by decide +kernel) (by decide +kernel), rfl, rfl, rfl⟩
set_option maxRecDepth 20000 in
theorem f_X7_161 : q_fld RX7 161 2 8 0 (.array .int) true := ⟨RX2, TX2, tyX2, rfl, wX2, tyX2_ok, nmX2, by decide, q_mm 192 (by decide +kernel) (by decide +kernel), rfl, rfl, rfl⟩
set_option maxRecDepth 20000 in
theorem f_X2_15 : q_fld RX2 15 2 8 1 (.array .int) true := ⟨RX2, TX2, tyX2, rfl, wX2, tyX2_ok, nmX2, by decide, q_mm 193 (by decide +kernel) (by decide +kernel), rfl, rfl, rfl⟩
set_option maxRecDepth 20000 in
theorem f_X7_164 : q_fld RX7 164 2 8 1 (.array .int) true := ⟨RX2, TX2, tyX2, rfl, wX2, tyX2_ok, nmX2, by decide, q_mm 194 (by decide +kernel) (by decide +kernel), rfl, rfl, rfl⟩
set_option maxRecDepth 20000 in
theorem f_X2_18 : q_fld RX2 18 2 8 2 (.array .int) true := ⟨RX2, TX2, tyX2, rfl, wX2, tyX2_ok, nmX2, by decide, q_mm 195 (by decide +kernel) (by decide +kernel), rfl, rfl, rfl⟩
set_option maxRecDepth 20000 in
theorem f_X7_167 : q_fld RX7 167 2 8 2 (.array .int) true := ⟨RX2, TX2, tyX2, rfl, wX2, tyX2_ok, nmX2, by decide, q_mm 196 (by decide +kernel) (by decide +kernel), rfl, rfl, rfl⟩
set_option maxRecDepth 20000 in
theorem f_X2_55 : q_fld RX2 55 2 8 3 .int false := ⟨RX2, TX2, tyX2, rfl, wX2, tyX2_ok, nmX2, by decide, q_mm 197 (by decide +kernel) (by decide +kernel), rfl, rfl, rfl⟩
set_option maxRecDepth 20000 in
theorem f_X7_176 : q_fld RX7 176 2 8 3 .int false := ⟨RX2, TX2, tyX2, rfl, wX2, tyX2_ok, nmX2, by decide, q_mm 198 (by decide +kernel) (by decide +kernel), rfl, rfl, rfl⟩
set_option maxRecDepth 20000 in
theorem f_X2_21 : q_fld RX2 21 2 8 4 (.array .int) true := ⟨RX2, TX2, tyX2, rfl, wX2, tyX2_ok, nmX2, by decide, q_mm 199 (by decide +kernel) (by decide +kernel), rfl, rfl, rfl⟩
set_option maxRecDepth 20000 in
theorem f_X2_24 : q_fld RX2 24 2 8 5 (.array .int) true := ⟨RX2, TX2, tyX2, rfl, wX2, tyX2_ok, nmX2, by decide, q_mm 200 (by decide +kernel) (by decide +kernel), rfl, rfl, rfl⟩
set_option maxRecDepth 20000 in
theorem f_X2_27 : q_fld RX2 27 2 8 6 .int false := ⟨RX2, TX2, tyX2, rfl, wX2, tyX2_ok, nmX2, by decide, q_mm 201 (by decide +kernel) (by decide +kernel), rfl, rfl, rfl⟩
set_option maxRecDepth 20000 in
theorem f_X2_31 : q_fld RX2 31 2 8 7 .int false := ⟨RX2, TX2, tyX2, rfl, wX2, tyX2_ok, nmX2, by decide, q_mm 202 (by decide +kernel) (by decide +kernel), rfl, rfl, rfl⟩
set_option maxRecDepth 20000 in
theorem f_X5_9 : q_fld RX5 9 5 5 0 (.array .int) true := ⟨RX5, TX5, tyX5, rfl, wX5, tyX5_ok, nmX5, by decide, q_mm 227 (by decide +kernel) (by decide +kernel), rfl, rfl, rfl⟩
set_option maxRecDepth 20000 in
theorem f_X3_97 : q_fld RX3 97 5 5 0 (.array .int) true := ⟨RX5, TX5, tyX5, rfl, wX5, tyX5_ok, nmX5, by decide, q_mm 228 (by decide +kernel) (by decide +kernel), rfl, rfl, rfl⟩
set_option maxRecDepth 20000 in
theorem f_X5_17 : q_fld RX5 17 5 5 1 (.array (.array .int)) true := ⟨RX5, TX5, tyX5, rfl, wX5, tyX5_ok, nmX5, by decide, q_mm 229 (by decide +kernel) (by decide +kernel), rfl, rfl, rfl⟩
set_option maxRecDepth 20000 in
theorem f_X3_105 : q_fld RX3 105 5 5 1 (.array (.array .int)) true := ⟨RX5, TX5, tyX5, rfl, wX5, tyX5_ok, nmX5, by decide, q_mm 230 (by decide +kernel) (by decide +kernel), rfl, rfl, rfl⟩
set_option maxRecDepth 20000 in
theorem f_X5_20 : q_fld RX5 20 5 5 2 (.array (.array .int)) true := ⟨RX5, TX5, tyX5, rfl, wX5, tyX5_ok, nmX5, by decide, q_mm 231 (by decide +kernel) (by decide +kernel), rfl, rfl, rfl⟩
set_option maxRecDepth 20000 in
theorem f_X3_102 : q_fld RX3 102 5 5 2 (.array (.array .int)) true := ⟨RX5, TX5, tyX5, rfl, wX5, tyX5_ok, nmX5, by decide, q_mm 232 (by decide +kernel) (by decide +kernel), rfl, rfl, rfl⟩
set_option maxRecDepth 20000 in
theorem f_X5_23 : q_fld RX5 23 5 5 3 (.array (.array .int)) true := ⟨RX5, TX5, tyX5, rfl, wX5, tyX5_ok, nmX5, by decide, q_mm 233 (by decide +kernel) (by decide +kernel), rfl, rfl, rfl⟩
set_option maxRecDepth 20000 in
theorem f_X3_108 : q_fld RX3 108 5 5 3 (.array (.array .int)) true := ⟨RX5, TX5, tyX5, rfl, wX5, tyX5_ok, nmX5, by decide, q_mm 234 (by decide +kernel) (by decide +kernel), rfl, rfl, rfl⟩
set_option maxRecDepth 20000 in
theorem f_X5_26 : q_fld RX5 26 5 5 4 .int false := ⟨RX5, TX5, tyX5, rfl, wX5, tyX5_ok, nmX5, by decide, q_mm 235 (by decide +kernel) (by decide +kernel), rfl, rfl, rfl⟩
set_option maxRecDepth 20000 in
theorem f_X7_121 : q_fld RX7 121 5 5 4 .int false := ⟨RX5, TX5, tyX5, rfl, wX5, tyX5_ok, nmX5, by decide, q_mm 236 (by decide +kernel) (by decide +kernel), rfl, rfl, rfl⟩
set_option maxRecDepth 20000 in
theorem f_X7_12 : q_fld RX7 12 7 10 0 (.object "DesertTown$Course") true := ⟨RX7, TX7, tyX7, rfl, wX7, tyX7_ok, nmX7, by decide, q_mm 248 (by decide +kernel) (by decide +kernel), rfl, rfl, rfl⟩
set_option maxRecDepth 20000 in
theorem f_X7_19 : q_fld RX7 19 7 10 1 (.object "DesertTown$Racers") true := ⟨RX7, TX7, tyX7, rfl, wX7, tyX7_ok, nmX7, by decide, q_mm 249 (by decide +kernel) (by decide +kernel), rfl, rfl, rfl⟩
set_option maxRecDepth 20000 in
theorem f_X7_26 : q_fld RX7 26 7 10 2 (.object "DesertTown$Tape") true := ⟨RX7, TX7, tyX7, rfl, wX7, tyX7_ok, nmX7, by decide, q_mm 250 (by decide +kernel) (by decide +kernel), rfl, rfl, rfl⟩
set_option maxRecDepth 20000 in
theorem f_X7_33 : q_fld RX7 33 7 10 3 (.object "DesertTown$BookReader") true := ⟨RX7, TX7, tyX7, rfl, wX7, tyX7_ok, nmX7, by decide, q_mm 251 (by decide +kernel) (by decide +kernel), rfl, rfl, rfl⟩
set_option maxRecDepth 20000 in
theorem f_X7_40 : q_fld RX7 40 7 10 4 (.object "DesertTown$Race") true := ⟨RX7, TX7, tyX7, rfl, wX7, tyX7_ok, nmX7, by decide, q_mm 252 (by decide +kernel) (by decide +kernel), rfl, rfl, rfl⟩
set_option maxRecDepth 20000 in
theorem f_X7_47 : q_fld RX7 47 7 10 5 (.object "DesertTown$Kitchens") true := ⟨RX7, TX7, tyX7, rfl, wX7, tyX7_ok, nmX7, by decide, q_mm 253 (by decide +kernel) (by decide +kernel), rfl, rfl, rfl⟩
set_option maxRecDepth 20000 in
theorem f_X7_51 : q_fld RX7 51 7 10 6 (.array .int) true := ⟨RX7, TX7, tyX7, rfl, wX7, tyX7_ok, nmX7, by decide, q_mm 254 (by decide +kernel) (by decide +kernel), rfl, rfl, rfl⟩
set_option maxRecDepth 20000 in
theorem f_X7_58 : q_fld RX7 58 7 10 7 (.object "DesertTown$RoadBook") false := ⟨RX7, TX7, tyX7, rfl, wX7, tyX7_ok, nmX7, by decide, q_mm 255 (by decide +kernel) (by decide +kernel), rfl, rfl, rfl⟩
set_option maxRecDepth 20000 in
theorem f_X7_62 : q_fld RX7 62 7 10 8 (.object "DesertTown$RoadBook") false := ⟨RX7, TX7, tyX7, rfl, wX7, tyX7_ok, nmX7, by decide, q_mm 256 (by decide +kernel) (by decide +kernel), rfl, rfl, rfl⟩
set_option maxRecDepth 20000 in
theorem f_X7_65 : q_fld RX7 65 7 10 9 .boolean false := ⟨RX7, TX7, tyX7, rfl, wX7, tyX7_ok, nmX7, by decide, q_mm 257 (by decide +kernel) (by decide +kernel), rfl, rfl, rfl⟩
set_option maxRecDepth 20000 in
theorem f_X8_75 : q_fld RX8 75 8 30 0 .int false := ⟨RX8, TX8, tyX8, rfl, wX8, tyX8_ok, nmX8, by decide, q_mm 607 (by decide +kernel) (by decide +kernel), rfl, rfl, rfl⟩
set_option maxRecDepth 20000 in
theorem f_X8_7 : q_fld RX8 7 8 30 1 (.array .int) true := ⟨RX8, TX8, tyX8, rfl, wX8, tyX8_ok, nmX8, by decide, q_mm 608 (by decide +kernel) (by decide +kernel), rfl, rfl, rfl⟩
set_option maxRecDepth 20000 in
theorem f_X8_13 : q_fld RX8 13 8 30 2 (.array .int) true := ⟨RX8, TX8, tyX8, rfl, wX8, tyX8_ok, nmX8, by decide, q_mm 609 (by decide +kernel) (by decide +kernel), rfl, rfl, rfl⟩
set_option maxRecDepth 20000 in
theorem f_X8_16 : q_fld RX8 16 8 30 3 (.array .int) true := ⟨RX8, TX8, tyX8, rfl, wX8, tyX8_ok, nmX8, by decide, q_mm 610 (by decide +kernel) (by decide +kernel), rfl, rfl, rfl⟩
set_option maxRecDepth 20000 in
theorem f_X8_19 : q_fld RX8 19 8 30 4 (.array .int) true := ⟨RX8, TX8, tyX8, rfl, wX8, tyX8_ok, nmX8, by decide, q_mm 611 (by decide +kernel) (by decide +kernel), rfl, rfl, rfl⟩
set_option maxRecDepth 20000 in
theorem f_X8_22 : q_fld RX8 22 8 30 5 (.array .int) true := ⟨RX8, TX8, tyX8, rfl, wX8, tyX8_ok, nmX8, by decide, q_mm 612 (by decide +kernel) (by decide +kernel), rfl, rfl, rfl⟩
set_option maxRecDepth 20000 in
theorem f_X8_25 : q_fld RX8 25 8 30 6 (.array .int) true := ⟨RX8, TX8, tyX8, rfl, wX8, tyX8_ok, nmX8, by decide, q_mm 613 (by decide +kernel) (by decide +kernel), rfl, rfl, rfl⟩
set_option maxRecDepth 20000 in
theorem f_X8_28 : q_fld RX8 28 8 30 7 (.array .int) true := ⟨RX8, TX8, tyX8, rfl, wX8, tyX8_ok, nmX8, by decide, q_mm 614 (by decide +kernel) (by decide +kernel), rfl, rfl, rfl⟩
set_option maxRecDepth 20000 in
theorem f_X8_31 : q_fld RX8 31 8 30 8 (.array .int) true := ⟨RX8, TX8, tyX8, rfl, wX8, tyX8_ok, nmX8, by decide, q_mm 615 (by decide +kernel) (by decide +kernel), rfl, rfl, rfl⟩
set_option maxRecDepth 20000 in
theorem f_X8_34 : q_fld RX8 34 8 30 9 (.array .int) true := ⟨RX8, TX8, tyX8, rfl, wX8, tyX8_ok, nmX8, by decide, q_mm 616 (by decide +kernel) (by decide +kernel), rfl, rfl, rfl⟩
set_option maxRecDepth 20000 in
theorem f_X8_37 : q_fld RX8 37 8 30 10 (.array .int) true := ⟨RX8, TX8, tyX8, rfl, wX8, tyX8_ok, nmX8, by decide, q_mm 617 (by decide +kernel) (by decide +kernel), rfl, rfl, rfl⟩
set_option maxRecDepth 20000 in
theorem f_X8_40 : q_fld RX8 40 8 30 11 (.array .int) true := ⟨RX8, TX8, tyX8, rfl, wX8, tyX8_ok, nmX8, by decide, q_mm 618 (by decide +kernel) (by decide +kernel), rfl, rfl, rfl⟩
set_option maxRecDepth 20000 in
theorem f_X8_92 : q_fld RX8 92 8 30 12 .int false := ⟨RX8, TX8, tyX8, rfl, wX8, tyX8_ok, nmX8, by decide, q_mm 619 (by decide +kernel) (by decide +kernel), rfl, rfl, rfl⟩
set_option maxRecDepth 20000 in
theorem f_X8_103 : q_fld RX8 103 8 30 13 .int false := ⟨RX8, TX8, tyX8, rfl, wX8, tyX8_ok, nmX8, by decide, q_mm 620 (by decide +kernel) (by decide +kernel), rfl, rfl, rfl⟩
set_option maxRecDepth 20000 in
theorem f_X8_112 : q_fld RX8 112 8 30 14 .int false := ⟨RX8, TX8, tyX8, rfl, wX8, tyX8_ok, nmX8, by decide, q_mm 621 (by decide +kernel) (by decide +kernel), rfl, rfl, rfl⟩
set_option maxRecDepth 20000 in
theorem f_X8_109 : q_fld RX8 109 8 30 15 .int false := ⟨RX8, TX8, tyX8, rfl, wX8, tyX8_ok, nmX8, by decide, q_mm 622 (by decide +kernel) (by decide +kernel), rfl, rfl, rfl⟩
set_option maxRecDepth 20000 in
theorem f_X8_125 : q_fld RX8 125 8 30 16 .int false := ⟨RX8, TX8, tyX8, rfl, wX8, tyX8_ok, nmX8, by decide, q_mm 623 (by decide +kernel) (by decide +kernel), rfl, rfl, rfl⟩
set_option maxRecDepth 20000 in
theorem f_X8_128 : q_fld RX8 128 8 30 17 .int false := ⟨RX8, TX8, tyX8, rfl, wX8, tyX8_ok, nmX8, by decide, q_mm 624 (by decide +kernel) (by decide +kernel), rfl, rfl, rfl⟩
set_option maxRecDepth 20000 in
theorem f_X8_131 : q_fld RX8 131 8 30 18 .int false := ⟨RX8, TX8, tyX8, rfl, wX8, tyX8_ok, nmX8, by decide, q_mm 625 (by decide +kernel) (by decide +kernel), rfl, rfl, rfl⟩
set_option maxRecDepth 20000 in
theorem f_X8_154 : q_fld RX8 154 8 30 19 .int false := ⟨RX8, TX8, tyX8, rfl, wX8, tyX8_ok, nmX8, by decide, q_mm 626 (by decide +kernel) (by decide +kernel), rfl, rfl, rfl⟩
set_option maxRecDepth 20000 in
theorem f_X8_140 : q_fld RX8 140 8 30 20 .int false := ⟨RX8, TX8, tyX8, rfl, wX8, tyX8_ok, nmX8, by decide, q_mm 627 (by decide +kernel) (by decide +kernel), rfl, rfl, rfl⟩
set_option maxRecDepth 20000 in
theorem f_X8_43 : q_fld RX8 43 8 30 21 .int false := ⟨RX8, TX8, tyX8, rfl, wX8, tyX8_ok, nmX8, by decide, q_mm 628 (by decide +kernel) (by decide +kernel), rfl, rfl, rfl⟩
set_option maxRecDepth 20000 in
theorem f_X8_47 : q_fld RX8 47 8 30 22 (.array .int) true := ⟨RX8, TX8, tyX8, rfl, wX8, tyX8_ok, nmX8, by decide, q_mm 629 (by decide +kernel) (by decide +kernel), rfl, rfl, rfl⟩
set_option maxRecDepth 20000 in
theorem f_X8_50 : q_fld RX8 50 8 30 23 (.array .int) true := ⟨RX8, TX8, tyX8, rfl, wX8, tyX8_ok, nmX8, by decide, q_mm 630 (by decide +kernel) (by decide +kernel), rfl, rfl, rfl⟩
set_option maxRecDepth 20000 in
theorem f_X8_53 : q_fld RX8 53 8 30 24 (.array .int) true := ⟨RX8, TX8, tyX8, rfl, wX8, tyX8_ok, nmX8, by decide, q_mm 631 (by decide +kernel) (by decide +kernel), rfl, rfl, rfl⟩
set_option maxRecDepth 20000 in
theorem f_X8_56 : q_fld RX8 56 8 30 25 (.array .int) true := ⟨RX8, TX8, tyX8, rfl, wX8, tyX8_ok, nmX8, by decide, q_mm 632 (by decide +kernel) (by decide +kernel), rfl, rfl, rfl⟩
set_option maxRecDepth 20000 in
theorem f_X8_59 : q_fld RX8 59 8 30 26 (.array .int) true := ⟨RX8, TX8, tyX8, rfl, wX8, tyX8_ok, nmX8, by decide, q_mm 633 (by decide +kernel) (by decide +kernel), rfl, rfl, rfl⟩
set_option maxRecDepth 20000 in
theorem f_X8_62 : q_fld RX8 62 8 30 27 (.array .int) true := ⟨RX8, TX8, tyX8, rfl, wX8, tyX8_ok, nmX8, by decide, q_mm 634 (by decide +kernel) (by decide +kernel), rfl, rfl, rfl⟩
set_option maxRecDepth 20000 in
theorem f_X8_65 : q_fld RX8 65 8 30 28 (.array .int) true := ⟨RX8, TX8, tyX8, rfl, wX8, tyX8_ok, nmX8, by decide, q_mm 635 (by decide +kernel) (by decide +kernel), rfl, rfl, rfl⟩
set_option maxRecDepth 20000 in
theorem f_X8_68 : q_fld RX8 68 8 30 29 (.array .int) true := ⟨RX8, TX8, tyX8, rfl, wX8, tyX8_ok, nmX8, by decide, q_mm 636 (by decide +kernel) (by decide +kernel), rfl, rfl, rfl⟩
abbrev FX7_init : q_F := (yX7_init, cX7_init, 1, none)
abbrev FX1_init : q_F := (yX1_init, cX1_init, 1, none)
abbrev FX4_init : q_F := (yX4_init, cX4_init, 1, none)
abbrev FX6_init : q_F := (yX6_init, cX6_init, 1, none)
abbrev FX0_init : q_F := (yX0_init, cX0_init, 1, none)
abbrev FX3_init : q_F := (yX3_init, cX3_init, 1, none)
abbrev FX2_init : q_F := (yX2_init, cX2_init, 1, none)
abbrev FX5_init : q_F := (yX5_init, cX5_init, 1, none)
abbrev FX7_camp : q_F := (yX7_camp, cX7_camp, 3, (some .boolean))
abbrev FX7_isCamp : q_F := (yX7_isCamp, cX7_isCamp, 1, (some .boolean))
abbrev FX7_within : q_F := (yX7_within, cX7_within, 3, (some .boolean))
abbrev FX4_forgetBreaksFrom : q_F := (yX4_forgetBreaksFrom, cX4_forgetBreaksFrom, 4, none)
abbrev FX7_hour : q_F := (yX7_hour, cX7_hour, 3, (some .boolean))
abbrev FX7_isStage : q_F := (yX7_isStage, cX7_isStage, 1, (some .boolean))
abbrev FX7_racer : q_F := (yX7_racer, cX7_racer, 2, (some .int))
abbrev FX4_add : q_F := (yX4_add, cX4_add, 2, (some .int))
abbrev FX7_breaks : q_F := (yX7_breaks, cX7_breaks, 4, (some .boolean))
abbrev FX4_has : q_F := (yX4_has, cX4_has, 2, (some .boolean))
abbrev FX7_set : q_F := (yX7_set, cX7_set, 3, (some .boolean))
abbrev FX7_feed : q_F := (yX7_feed, cX7_feed, 6, (some .int))
abbrev FX6_append : q_F := (yX6_append, cX6_append, 3, none)
abbrev FX7_end : q_F := (yX7_end, cX7_end, 2, (some .boolean))
abbrev FX7_book : q_F := (yX7_book, cX7_book, 3, (some .int))
abbrev FX0_read : q_F := (yX0_read, cX0_read, 7, (some .boolean))
abbrev FX5_clear : q_F := (yX5_clear, cX5_clear, 2, none)
abbrev FX0_behindBlanks : q_F := (yX0_behindBlanks, cX0_behindBlanks, 3, (some .int))
abbrev FX6_byteAt : q_F := (yX6_byteAt, cX6_byteAt, 2, (some .int))
abbrev FX0_isBlank : q_F := (yX0_isBlank, cX0_isBlank, 1, (some .boolean))
abbrev FX0_behindToken : q_F := (yX0_behindToken, cX0_behindToken, 3, (some .int))
abbrev FX0_isLetter : q_F := (yX0_isLetter, cX0_isLetter, 1, (some .boolean))
abbrev FX0_isDigit : q_F := (yX0_isDigit, cX0_isDigit, 1, (some .boolean))
abbrev FX0_faultOf : q_F := (yX0_faultOf, cX0_faultOf, 7, (some .int))
abbrev FX5_add : q_F := (yX5_add, cX5_add, 6, none)
abbrev FX5_isFull : q_F := (yX5_isFull, cX5_isFull, 2, (some .boolean))
abbrev FX0_keywordOf : q_F := (yX0_keywordOf, cX0_keywordOf, 1, (some (.object "java/lang/String")))
abbrev FX0_isWord : q_F := (yX0_isWord, cX0_isWord, 5, (some .boolean))
abbrev FJ0_length_8abf5 : q_F := (yJ0_length_8abf5, cJ0_length_8abf5, 1, (some .int))
abbrev FJ0_coder_7d493 : q_F := (yJ0_coder_7d493, cJ0_coder_7d493, 1, (some .byte))
abbrev FJ0_charAt_5068e : q_F := (yJ0_charAt_5068e, cJ0_charAt_5068e, 2, (some .char))
abbrev FJ0_isLatin1_aae02 : q_F := (yJ0_isLatin1_aae02, cJ0_isLatin1_aae02, 1, (some .boolean))
abbrev FJ1_charAt_3b067 : q_F := (yJ1_charAt_3b067, cJ1_charAt_3b067, 2, (some .char))
abbrev FJ0_checkIndex_df160 : q_F := (yJ0_checkIndex_df160, cJ0_checkIndex_df160, 2, none)
abbrev FJ3_checkIndex_8e157 : q_F := (yJ3_checkIndex_8e157, cJ3_checkIndex_8e157, 3, (some .int))
abbrev FJ2_charAt_3b067 : q_F := (yJ2_charAt_3b067, cJ2_charAt_3b067, 2, (some .char))
abbrev FJ2_checkIndex_2214a : q_F := (yJ2_checkIndex_2214a, cJ2_checkIndex_2214a, 2, none)
abbrev FJ2_length_9d52b : q_F := (yJ2_length_9d52b, cJ2_length_9d52b, 1, (some .int))
abbrev FJ2_getChar_3b067 : q_F := (yJ2_getChar_3b067, cJ2_getChar_3b067, 2, (some .char))
abbrev FX0_numberOf : q_F := (yX0_numberOf, cX0_numberOf, 5, (some .int))
abbrev FX0_faultOfNumber : q_F := (yX0_faultOfNumber, cX0_faultOfNumber, 4, (some .int))
abbrev FX5_reach : q_F := (yX5_reach, cX5_reach, 2, (some .int))
abbrev FX7_fault : q_F := (yX7_fault, cX7_fault, 2, (some .int))
abbrev FX7_look : q_F := (yX7_look, cX7_look, 2, (some .int))
abbrev FX1_kilometerOf : q_F := (yX1_kilometerOf, cX1_kilometerOf, 4, (some .int))
abbrev FX7_time : q_F := (yX7_time, cX7_time, 3, (some .int))
abbrev FX7_settle : q_F := (yX7_settle, cX7_settle, 1, none)
abbrev FX3_run : q_F := (yX3_run, cX3_run, 6, none)
abbrev FX3_forget : q_F := (yX3_forget, cX3_forget, 3, none)
abbrev FX1_begins : q_F := (yX1_begins, cX1_begins, 2, (some .int))
abbrev FX3_timeFor : q_F := (yX3_timeFor, cX3_timeFor, 12, (some .int))
abbrev FJ9_min_7cf53 : q_F := (yJ9_min_7cf53, cJ9_min_7cf53, 2, (some .int))
abbrev FX7_divideUpwards : q_F := (yX7_divideUpwards, cX7_divideUpwards, 4, (some .int))
abbrev FX3_runStage : q_F := (yX3_runStage, cX3_runStage, 6, none)
abbrev FX3_rank : q_F := (yX3_rank, cX3_rank, 4, none)
abbrev FX3_isAhead : q_F := (yX3_isAhead, cX3_isAhead, 4, (some .boolean))
abbrev FX3_tellPlaces : q_F := (yX3_tellPlaces, cX3_tellPlaces, 3, none)
abbrev FX2_plan : q_F := (yX2_plan, cX2_plan, 5, none)
abbrev FX3_firstArrival : q_F := (yX3_firstArrival, cX3_firstArrival, 5, (some .int))
abbrev FX3_lastArrival : q_F := (yX3_lastArrival, cX3_lastArrival, 4, (some .int))
abbrev FJ9_max_7cf53 : q_F := (yJ9_max_7cf53, cJ9_max_7cf53, 2, (some .int))
abbrev FX2_fewestSets : q_F := (yX2_fewestSets, cX2_fewestSets, 2, (some .int))
abbrev FX2_share : q_F := (yX2_share, cX2_share, 6, (some .boolean))
abbrev FX2_canDo : q_F := (yX2_canDo, cX2_canDo, 4, (some .boolean))
abbrev FX7_minutesFor : q_F := (yX7_minutesFor, cX7_minutesFor, 2, (some .int))
abbrev FX7_ran : q_F := (yX7_ran, cX7_ran, 4, (some .int))
abbrev FX7_standing : q_F := (yX7_standing, cX7_standing, 3, (some .int))
abbrev FX7_of : q_F := (yX7_of, cX7_of, 5, (some .int))
abbrev FX7_sets : q_F := (yX7_sets, cX7_sets, 1, (some .int))
abbrev FX7_goes : q_F := (yX7_goes, cX7_goes, 2, (some .int))
abbrev FX2_lastCampOf : q_F := (yX2_lastCampOf, cX2_lastCampOf, 3, (some .int))
abbrev FX2_firstCampOf : q_F := (yX2_firstCampOf, cX2_firstCampOf, 3, (some .int))
abbrev FX7_sweep : q_F := (yX7_sweep, cX7_sweep, 5, (some .int))
abbrev FX3_brokenDown : q_F := (yX3_brokenDown, cX3_brokenDown, 5, (some .int))
abbrev FJ6_bitCount_0f7a4 : q_F := (yJ6_bitCount_0f7a4, cJ6_bitCount_0f7a4, 1, (some .int))
abbrev FX7_sweepersCome : q_F := (yX7_sweepersCome, cX7_sweepersCome, 4, (some .int))
abbrev FX3_lastStart : q_F := (yX3_lastStart, cX3_lastStart, 2, (some .int))
abbrev FX8_init : q_F := (yX8_init, cX8_init, 2, none)
abbrev FX8_camp : q_F := (yX8_camp, cX8_camp, 4, (some .boolean))
abbrev FX8_isCamp : q_F := (yX8_isCamp, cX8_isCamp, 1, (some .boolean))
abbrev FX8_isIn : q_F := (yX8_isIn, cX8_isIn, 3, (some .boolean))
abbrev FX8_hour : q_F := (yX8_hour, cX8_hour, 3, (some .boolean))
abbrev FX8_isStage : q_F := (yX8_isStage, cX8_isStage, 1, (some .boolean))
abbrev FX8_racer : q_F := (yX8_racer, cX8_racer, 2, (some .int))
abbrev FX8_breaks : q_F := (yX8_breaks, cX8_breaks, 4, (some .boolean))
abbrev FX8_isRacer : q_F := (yX8_isRacer, cX8_isRacer, 2, (some .boolean))
abbrev FX8_length : q_F := (yX8_length, cX8_length, 2, (some .int))
abbrev FX8_set : q_F := (yX8_set, cX8_set, 4, (some .boolean))
abbrev FX8_feed : q_F := (yX8_feed, cX8_feed, 8, (some .int))
abbrev FX8_end : q_F := (yX8_end, cX8_end, 2, (some .boolean))
abbrev FX8_book : q_F := (yX8_book, cX8_book, 3, (some .int))
abbrev FX8_next0 : q_F := (yX8_next0, cX8_next0, 5, none)
abbrev FX8_see : q_F := (yX8_see, cX8_see, 2, (some .int))
abbrev FX8_isLetter : q_F := (yX8_isLetter, cX8_isLetter, 1, (some .boolean))
abbrev FX8_word : q_F := (yX8_word, cX8_word, 2, (some .int))
abbrev FX8_isDigit : q_F := (yX8_isDigit, cX8_isDigit, 1, (some .boolean))
abbrev FX8_aZone : q_F := (yX8_aZone, cX8_aZone, 3, (some .boolean))
abbrev FX8_need : q_F := (yX8_need, cX8_need, 2, (some .boolean))
abbrev FX8_bad : q_F := (yX8_bad, cX8_bad, 2, (some .boolean))
abbrev FX8_aNumber : q_F := (yX8_aNumber, cX8_aNumber, 3, (some .boolean))
abbrev FX8_all : q_F := (yX8_all, cX8_all, 3, (some .int))
abbrev FX8_fault : q_F := (yX8_fault, cX8_fault, 2, (some .int))
abbrev FX8_look : q_F := (yX8_look, cX8_look, 4, (some .int))
abbrev FX8_time : q_F := (yX8_time, cX8_time, 3, (some .int))
abbrev FX8_timeOf : q_F := (yX8_timeOf, cX8_timeOf, 12, (some .int))
abbrev FX8_lesser : q_F := (yX8_lesser, cX8_lesser, 2, (some .int))
abbrev FX8_ran : q_F := (yX8_ran, cX8_ran, 5, (some .int))
abbrev FX8_runs : q_F := (yX8_runs, cX8_runs, 6, none)
abbrev FX8_comes : q_F := (yX8_comes, cX8_comes, 4, none)
abbrev FX8_isAhead : q_F := (yX8_isAhead, cX8_isAhead, 4, (some .boolean))
abbrev FX8_standing : q_F := (yX8_standing, cX8_standing, 3, (some .int))
abbrev FX8_sets : q_F := (yX8_sets, cX8_sets, 1, (some .int))
abbrev FX8_finds : q_F := (yX8_finds, cX8_finds, 2, (some .int))
abbrev FX8_kitchens : q_F := (yX8_kitchens, cX8_kitchens, 6, none)
abbrev FX8_tries : q_F := (yX8_tries, cX8_tries, 4, (some .boolean))
abbrev FX8_isNeeded : q_F := (yX8_isNeeded, cX8_isNeeded, 2, (some .boolean))
abbrev FX8_canDo : q_F := (yX8_canDo, cX8_canDo, 4, (some .boolean))
abbrev FX8_lastOf : q_F := (yX8_lastOf, cX8_lastOf, 5, (some .int))
abbrev FX8_between : q_F := (yX8_between, cX8_between, 5, (some .int))
abbrev FX8_goes : q_F := (yX8_goes, cX8_goes, 5, (some .int))
abbrev FX8_of : q_F := (yX8_of, cX8_of, 4, (some .int))
abbrev FX8_sweep : q_F := (yX8_sweep, cX8_sweep, 7, (some .int))
set_option maxRecDepth 20000 in
theorem m_X7_init : q_mt FX7_init 0 := ⟨q_mm 52 (by decide +kernel) (by decide +kernel), q_mm 33 (by decide +kernel) (by decide +kernel), by decide +kernel, by decide⟩
set_option maxRecDepth 20000 in
theorem m_X1_init : q_mt FX1_init 0 := ⟨q_mm 60 (by decide +kernel) (by decide +kernel), q_mm 34 (by decide +kernel) (by decide +kernel), by decide +kernel, by decide⟩
set_option maxRecDepth 20000 in
theorem m_X4_init : q_mt FX4_init 0 := ⟨q_mm 77 (by decide +kernel) (by decide +kernel), q_mm 35 (by decide +kernel) (by decide +kernel), by decide +kernel, by decide⟩
set_option maxRecDepth 20000 in
theorem m_X6_init : q_mt FX6_init 0 := ⟨q_mm 102 (by decide +kernel) (by decide +kernel), q_mm 36 (by decide +kernel) (by decide +kernel), by decide +kernel, by decide⟩
set_option maxRecDepth 20000 in
theorem m_X0_init : q_mt FX0_init 0 := ⟨q_mm 118 (by decide +kernel) (by decide +kernel), q_mm 37 (by decide +kernel) (by decide +kernel), by decide +kernel, by decide⟩
set_option maxRecDepth 20000 in
theorem m_X3_init : q_mt FX3_init 0 := ⟨q_mm 145 (by decide +kernel) (by decide +kernel), q_mm 38 (by decide +kernel) (by decide +kernel), by decide +kernel, by decide⟩
set_option maxRecDepth 20000 in
theorem m_X2_init : q_mt FX2_init 0 := ⟨q_mm 189 (by decide +kernel) (by decide +kernel), q_mm 39 (by decide +kernel) (by decide +kernel), by decide +kernel, by decide⟩
set_option maxRecDepth 20000 in
theorem m_X5_init : q_mt FX5_init 0 := ⟨q_mm 224 (by decide +kernel) (by decide +kernel), q_mm 40 (by decide +kernel) (by decide +kernel), by decide +kernel, by decide⟩
set_option maxRecDepth 20000 in
theorem m_X7_camp : q_mt FX7_camp 2 := ⟨q_mm 282 (by decide +kernel) (by decide +kernel), q_mm 33 (by decide +kernel) (by decide +kernel), by decide +kernel, by decide⟩
set_option maxRecDepth 20000 in
theorem m_X7_isCamp : q_mt FX7_isCamp 1 := ⟨q_mm 285 (by decide +kernel) (by decide +kernel), q_mm 33 (by decide +kernel) (by decide +kernel), by decide +kernel, by decide⟩
set_option maxRecDepth 20000 in
theorem m_X7_within : q_mt FX7_within 3 := ⟨q_mm 288 (by decide +kernel) (by decide +kernel), q_mm 33 (by decide +kernel) (by decide +kernel), by decide +kernel, by decide⟩
set_option maxRecDepth 20000 in
theorem m_X4_forgetBreaksFrom : q_mt FX4_forgetBreaksFrom 2 := ⟨q_mm 292 (by decide +kernel) (by decide +kernel), q_mm 35 (by decide +kernel) (by decide +kernel), by decide +kernel, by decide⟩
set_option maxRecDepth 20000 in
theorem m_X7_hour : q_mt FX7_hour 2 := ⟨q_mm 296 (by decide +kernel) (by decide +kernel), q_mm 33 (by decide +kernel) (by decide +kernel), by decide +kernel, by decide⟩
set_option maxRecDepth 20000 in
theorem m_X7_isStage : q_mt FX7_isStage 1 := ⟨q_mm 299 (by decide +kernel) (by decide +kernel), q_mm 33 (by decide +kernel) (by decide +kernel), by decide +kernel, by decide⟩
set_option maxRecDepth 20000 in
theorem m_X7_racer : q_mt FX7_racer 1 := ⟨q_mm 303 (by decide +kernel) (by decide +kernel), q_mm 33 (by decide +kernel) (by decide +kernel), by decide +kernel, by decide⟩
set_option maxRecDepth 20000 in
theorem m_X4_add : q_mt FX4_add 1 := ⟨q_mm 307 (by decide +kernel) (by decide +kernel), q_mm 35 (by decide +kernel) (by decide +kernel), by decide +kernel, by decide⟩
set_option maxRecDepth 20000 in
theorem m_X7_breaks : q_mt FX7_breaks 3 := ⟨q_mm 311 (by decide +kernel) (by decide +kernel), q_mm 33 (by decide +kernel) (by decide +kernel), by decide +kernel, by decide⟩
set_option maxRecDepth 20000 in
theorem m_X4_has : q_mt FX4_has 1 := ⟨q_mm 315 (by decide +kernel) (by decide +kernel), q_mm 35 (by decide +kernel) (by decide +kernel), by decide +kernel, by decide⟩
set_option maxRecDepth 20000 in
theorem m_X7_set : q_mt FX7_set 2 := ⟨q_mm 320 (by decide +kernel) (by decide +kernel), q_mm 33 (by decide +kernel) (by decide +kernel), by decide +kernel, by decide⟩
set_option maxRecDepth 20000 in
theorem m_X7_feed : q_mt FX7_feed 5 := ⟨q_mm 328 (by decide +kernel) (by decide +kernel), q_mm 33 (by decide +kernel) (by decide +kernel), by decide +kernel, by decide⟩
set_option maxRecDepth 20000 in
theorem m_X6_append : q_mt FX6_append 1 := ⟨q_mm 332 (by decide +kernel) (by decide +kernel), q_mm 36 (by decide +kernel) (by decide +kernel), by decide +kernel, by decide⟩
set_option maxRecDepth 20000 in
theorem m_X7_end : q_mt FX7_end 1 := ⟨q_mm 336 (by decide +kernel) (by decide +kernel), q_mm 33 (by decide +kernel) (by decide +kernel), by decide +kernel, by decide⟩
set_option maxRecDepth 20000 in
theorem m_X7_book : q_mt FX7_book 0 := ⟨q_mm 340 (by decide +kernel) (by decide +kernel), q_mm 33 (by decide +kernel) (by decide +kernel), by decide +kernel, by decide⟩
set_option maxRecDepth 20000 in
theorem m_X0_read : q_mt FX0_read 2 := ⟨q_mm 344 (by decide +kernel) (by decide +kernel), q_mm 37 (by decide +kernel) (by decide +kernel), by decide +kernel, by decide⟩
set_option maxRecDepth 20000 in
theorem m_X5_clear : q_mt FX5_clear 0 := ⟨q_mm 348 (by decide +kernel) (by decide +kernel), q_mm 40 (by decide +kernel) (by decide +kernel), by decide +kernel, by decide⟩
set_option maxRecDepth 20000 in
theorem m_X0_behindBlanks : q_mt FX0_behindBlanks 2 := ⟨q_mm 351 (by decide +kernel) (by decide +kernel), q_mm 37 (by decide +kernel) (by decide +kernel), by decide +kernel, by decide⟩
set_option maxRecDepth 20000 in
theorem m_X6_byteAt : q_mt FX6_byteAt 1 := ⟨q_mm 355 (by decide +kernel) (by decide +kernel), q_mm 36 (by decide +kernel) (by decide +kernel), by decide +kernel, by decide⟩
set_option maxRecDepth 20000 in
theorem m_X0_isBlank : q_mt FX0_isBlank 1 := ⟨q_mm 359 (by decide +kernel) (by decide +kernel), q_mm 37 (by decide +kernel) (by decide +kernel), by decide +kernel, by decide⟩
set_option maxRecDepth 20000 in
theorem m_X0_behindToken : q_mt FX0_behindToken 2 := ⟨q_mm 362 (by decide +kernel) (by decide +kernel), q_mm 37 (by decide +kernel) (by decide +kernel), by decide +kernel, by decide⟩
set_option maxRecDepth 20000 in
theorem m_X0_isLetter : q_mt FX0_isLetter 1 := ⟨q_mm 365 (by decide +kernel) (by decide +kernel), q_mm 37 (by decide +kernel) (by decide +kernel), by decide +kernel, by decide⟩
set_option maxRecDepth 20000 in
theorem m_X0_isDigit : q_mt FX0_isDigit 1 := ⟨q_mm 369 (by decide +kernel) (by decide +kernel), q_mm 37 (by decide +kernel) (by decide +kernel), by decide +kernel, by decide⟩
set_option maxRecDepth 20000 in
theorem m_X0_faultOf : q_mt FX0_faultOf 5 := ⟨q_mm 373 (by decide +kernel) (by decide +kernel), q_mm 37 (by decide +kernel) (by decide +kernel), by decide +kernel, by decide⟩
set_option maxRecDepth 20000 in
theorem m_X5_add : q_mt FX5_add 4 := ⟨q_mm 377 (by decide +kernel) (by decide +kernel), q_mm 40 (by decide +kernel) (by decide +kernel), by decide +kernel, by decide⟩
set_option maxRecDepth 20000 in
theorem m_X5_isFull : q_mt FX5_isFull 1 := ⟨q_mm 381 (by decide +kernel) (by decide +kernel), q_mm 40 (by decide +kernel) (by decide +kernel), by decide +kernel, by decide⟩
set_option maxRecDepth 20000 in
theorem m_X0_keywordOf : q_mt FX0_keywordOf 1 := ⟨q_mm 385 (by decide +kernel) (by decide +kernel), q_mm 37 (by decide +kernel) (by decide +kernel), by decide +kernel, by decide⟩
set_option maxRecDepth 20000 in
theorem m_X0_isWord : q_mt FX0_isWord 4 := ⟨q_mm 392 (by decide +kernel) (by decide +kernel), q_mm 37 (by decide +kernel) (by decide +kernel), by decide +kernel, by decide⟩
set_option maxRecDepth 20000 in
theorem m_J0_length_8abf5 : q_mt FJ0_length_8abf5 0 := ⟨q_mm 396 (by decide +kernel) (by decide +kernel), q_mm 42 (by decide +kernel) (by decide +kernel), by decide +kernel, by decide⟩
set_option maxRecDepth 20000 in
theorem m_J0_coder_7d493 : q_mt FJ0_coder_7d493 0 := ⟨q_mm 400 (by decide +kernel) (by decide +kernel), q_mm 42 (by decide +kernel) (by decide +kernel), by decide +kernel, by decide⟩
set_option maxRecDepth 20000 in
theorem m_J0_charAt_5068e : q_mt FJ0_charAt_5068e 1 := ⟨q_mm 406 (by decide +kernel) (by decide +kernel), q_mm 42 (by decide +kernel) (by decide +kernel), by decide +kernel, by decide⟩
set_option maxRecDepth 20000 in
theorem m_J0_isLatin1_aae02 : q_mt FJ0_isLatin1_aae02 0 := ⟨q_mm 410 (by decide +kernel) (by decide +kernel), q_mm 42 (by decide +kernel) (by decide +kernel), by decide +kernel, by decide⟩
set_option maxRecDepth 20000 in
theorem m_J1_charAt_3b067 : q_mt FJ1_charAt_3b067 2 := ⟨q_mm 413 (by decide +kernel) (by decide +kernel), q_mm 43 (by decide +kernel) (by decide +kernel), by decide +kernel, by decide⟩
set_option maxRecDepth 20000 in
theorem m_J0_checkIndex_df160 : q_mt FJ0_checkIndex_df160 2 := ⟨q_mm 416 (by decide +kernel) (by decide +kernel), q_mm 42 (by decide +kernel) (by decide +kernel), by decide +kernel, by decide⟩
set_option maxRecDepth 20000 in
theorem m_J3_checkIndex_8e157 : q_mt FJ3_checkIndex_8e157 3 := ⟨q_mm 421 (by decide +kernel) (by decide +kernel), q_mm 44 (by decide +kernel) (by decide +kernel), by decide +kernel, by decide⟩
set_option maxRecDepth 20000 in
theorem m_J2_charAt_3b067 : q_mt FJ2_charAt_3b067 2 := ⟨q_mm 424 (by decide +kernel) (by decide +kernel), q_mm 45 (by decide +kernel) (by decide +kernel), by decide +kernel, by decide⟩
set_option maxRecDepth 20000 in
theorem m_J2_checkIndex_2214a : q_mt FJ2_checkIndex_2214a 2 := ⟨q_mm 427 (by decide +kernel) (by decide +kernel), q_mm 45 (by decide +kernel) (by decide +kernel), by decide +kernel, by decide⟩
set_option maxRecDepth 20000 in
theorem m_J2_length_9d52b : q_mt FJ2_length_9d52b 1 := ⟨q_mm 430 (by decide +kernel) (by decide +kernel), q_mm 45 (by decide +kernel) (by decide +kernel), by decide +kernel, by decide⟩
set_option maxRecDepth 20000 in
theorem m_J2_getChar_3b067 : q_mt FJ2_getChar_3b067 2 := ⟨q_mm 434 (by decide +kernel) (by decide +kernel), q_mm 45 (by decide +kernel) (by decide +kernel), by decide +kernel, by decide⟩
set_option maxRecDepth 20000 in
theorem m_X0_numberOf : q_mt FX0_numberOf 3 := ⟨q_mm 443 (by decide +kernel) (by decide +kernel), q_mm 37 (by decide +kernel) (by decide +kernel), by decide +kernel, by decide⟩
set_option maxRecDepth 20000 in
theorem m_X0_faultOfNumber : q_mt FX0_faultOfNumber 3 := ⟨q_mm 447 (by decide +kernel) (by decide +kernel), q_mm 37 (by decide +kernel) (by decide +kernel), by decide +kernel, by decide⟩
set_option maxRecDepth 20000 in
theorem m_X5_reach : q_mt FX5_reach 1 := ⟨q_mm 453 (by decide +kernel) (by decide +kernel), q_mm 40 (by decide +kernel) (by decide +kernel), by decide +kernel, by decide⟩
set_option maxRecDepth 20000 in
theorem m_X7_fault : q_mt FX7_fault 1 := ⟨q_mm 458 (by decide +kernel) (by decide +kernel), q_mm 33 (by decide +kernel) (by decide +kernel), by decide +kernel, by decide⟩
set_option maxRecDepth 20000 in
theorem m_X7_look : q_mt FX7_look 1 := ⟨q_mm 462 (by decide +kernel) (by decide +kernel), q_mm 33 (by decide +kernel) (by decide +kernel), by decide +kernel, by decide⟩
set_option maxRecDepth 20000 in
theorem m_X1_kilometerOf : q_mt FX1_kilometerOf 1 := ⟨q_mm 466 (by decide +kernel) (by decide +kernel), q_mm 34 (by decide +kernel) (by decide +kernel), by decide +kernel, by decide⟩
set_option maxRecDepth 20000 in
theorem m_X7_time : q_mt FX7_time 2 := ⟨q_mm 470 (by decide +kernel) (by decide +kernel), q_mm 33 (by decide +kernel) (by decide +kernel), by decide +kernel, by decide⟩
set_option maxRecDepth 20000 in
theorem m_X7_settle : q_mt FX7_settle 0 := ⟨q_mm 474 (by decide +kernel) (by decide +kernel), q_mm 33 (by decide +kernel) (by decide +kernel), by decide +kernel, by decide⟩
set_option maxRecDepth 20000 in
theorem m_X3_run : q_mt FX3_run 3 := ⟨q_mm 478 (by decide +kernel) (by decide +kernel), q_mm 38 (by decide +kernel) (by decide +kernel), by decide +kernel, by decide⟩
set_option maxRecDepth 20000 in
theorem m_X3_forget : q_mt FX3_forget 1 := ⟨q_mm 482 (by decide +kernel) (by decide +kernel), q_mm 38 (by decide +kernel) (by decide +kernel), by decide +kernel, by decide⟩
set_option maxRecDepth 20000 in
theorem m_X1_begins : q_mt FX1_begins 1 := ⟨q_mm 486 (by decide +kernel) (by decide +kernel), q_mm 34 (by decide +kernel) (by decide +kernel), by decide +kernel, by decide⟩
set_option maxRecDepth 20000 in
theorem m_X3_timeFor : q_mt FX3_timeFor 4 := ⟨q_mm 490 (by decide +kernel) (by decide +kernel), q_mm 38 (by decide +kernel) (by decide +kernel), by decide +kernel, by decide⟩
set_option maxRecDepth 20000 in
theorem m_J9_min_7cf53 : q_mt FJ9_min_7cf53 2 := ⟨q_mm 493 (by decide +kernel) (by decide +kernel), q_mm 46 (by decide +kernel) (by decide +kernel), by decide +kernel, by decide⟩
set_option maxRecDepth 20000 in
theorem m_X7_divideUpwards : q_mt FX7_divideUpwards 2 := ⟨q_mm 497 (by decide +kernel) (by decide +kernel), q_mm 33 (by decide +kernel) (by decide +kernel), by decide +kernel, by decide⟩
set_option maxRecDepth 20000 in
theorem m_X3_runStage : q_mt FX3_runStage 2 := ⟨q_mm 501 (by decide +kernel) (by decide +kernel), q_mm 38 (by decide +kernel) (by decide +kernel), by decide +kernel, by decide⟩
set_option maxRecDepth 20000 in
theorem m_X3_rank : q_mt FX3_rank 2 := ⟨q_mm 505 (by decide +kernel) (by decide +kernel), q_mm 38 (by decide +kernel) (by decide +kernel), by decide +kernel, by decide⟩
set_option maxRecDepth 20000 in
theorem m_X3_isAhead : q_mt FX3_isAhead 3 := ⟨q_mm 509 (by decide +kernel) (by decide +kernel), q_mm 38 (by decide +kernel) (by decide +kernel), by decide +kernel, by decide⟩
set_option maxRecDepth 20000 in
theorem m_X3_tellPlaces : q_mt FX3_tellPlaces 1 := ⟨q_mm 513 (by decide +kernel) (by decide +kernel), q_mm 38 (by decide +kernel) (by decide +kernel), by decide +kernel, by decide⟩
set_option maxRecDepth 20000 in
theorem m_X2_plan : q_mt FX2_plan 3 := ⟨q_mm 517 (by decide +kernel) (by decide +kernel), q_mm 39 (by decide +kernel) (by decide +kernel), by decide +kernel, by decide⟩
set_option maxRecDepth 20000 in
theorem m_X3_firstArrival : q_mt FX3_firstArrival 1 := ⟨q_mm 521 (by decide +kernel) (by decide +kernel), q_mm 38 (by decide +kernel) (by decide +kernel), by decide +kernel, by decide⟩
set_option maxRecDepth 20000 in
theorem m_X3_lastArrival : q_mt FX3_lastArrival 1 := ⟨q_mm 526 (by decide +kernel) (by decide +kernel), q_mm 38 (by decide +kernel) (by decide +kernel), by decide +kernel, by decide⟩
set_option maxRecDepth 20000 in
theorem m_J9_max_7cf53 : q_mt FJ9_max_7cf53 2 := ⟨q_mm 529 (by decide +kernel) (by decide +kernel), q_mm 46 (by decide +kernel) (by decide +kernel), by decide +kernel, by decide⟩
set_option maxRecDepth 20000 in
theorem m_X2_fewestSets : q_mt FX2_fewestSets 0 := ⟨q_mm 534 (by decide +kernel) (by decide +kernel), q_mm 39 (by decide +kernel) (by decide +kernel), by decide +kernel, by decide⟩
set_option maxRecDepth 20000 in
theorem m_X2_share : q_mt FX2_share 3 := ⟨q_mm 538 (by decide +kernel) (by decide +kernel), q_mm 39 (by decide +kernel) (by decide +kernel), by decide +kernel, by decide⟩
set_option maxRecDepth 20000 in
theorem m_X2_canDo : q_mt FX2_canDo 2 := ⟨q_mm 542 (by decide +kernel) (by decide +kernel), q_mm 39 (by decide +kernel) (by decide +kernel), by decide +kernel, by decide⟩
set_option maxRecDepth 20000 in
theorem m_X7_minutesFor : q_mt FX7_minutesFor 2 := ⟨q_mm 545 (by decide +kernel) (by decide +kernel), q_mm 33 (by decide +kernel) (by decide +kernel), by decide +kernel, by decide⟩
set_option maxRecDepth 20000 in
theorem m_X7_ran : q_mt FX7_ran 3 := ⟨q_mm 551 (by decide +kernel) (by decide +kernel), q_mm 33 (by decide +kernel) (by decide +kernel), by decide +kernel, by decide⟩
set_option maxRecDepth 20000 in
theorem m_X7_standing : q_mt FX7_standing 2 := ⟨q_mm 555 (by decide +kernel) (by decide +kernel), q_mm 33 (by decide +kernel) (by decide +kernel), by decide +kernel, by decide⟩
set_option maxRecDepth 20000 in
theorem m_X7_of : q_mt FX7_of 2 := ⟨q_mm 559 (by decide +kernel) (by decide +kernel), q_mm 33 (by decide +kernel) (by decide +kernel), by decide +kernel, by decide⟩
set_option maxRecDepth 20000 in
theorem m_X7_sets : q_mt FX7_sets 0 := ⟨q_mm 564 (by decide +kernel) (by decide +kernel), q_mm 33 (by decide +kernel) (by decide +kernel), by decide +kernel, by decide⟩
set_option maxRecDepth 20000 in
theorem m_X7_goes : q_mt FX7_goes 1 := ⟨q_mm 568 (by decide +kernel) (by decide +kernel), q_mm 33 (by decide +kernel) (by decide +kernel), by decide +kernel, by decide⟩
set_option maxRecDepth 20000 in
theorem m_X2_lastCampOf : q_mt FX2_lastCampOf 1 := ⟨q_mm 572 (by decide +kernel) (by decide +kernel), q_mm 39 (by decide +kernel) (by decide +kernel), by decide +kernel, by decide⟩
set_option maxRecDepth 20000 in
theorem m_X2_firstCampOf : q_mt FX2_firstCampOf 1 := ⟨q_mm 576 (by decide +kernel) (by decide +kernel), q_mm 39 (by decide +kernel) (by decide +kernel), by decide +kernel, by decide⟩
set_option maxRecDepth 20000 in
theorem m_X7_sweep : q_mt FX7_sweep 2 := ⟨q_mm 580 (by decide +kernel) (by decide +kernel), q_mm 33 (by decide +kernel) (by decide +kernel), by decide +kernel, by decide⟩
set_option maxRecDepth 20000 in
theorem m_X3_brokenDown : q_mt FX3_brokenDown 2 := ⟨q_mm 584 (by decide +kernel) (by decide +kernel), q_mm 38 (by decide +kernel) (by decide +kernel), by decide +kernel, by decide⟩
set_option maxRecDepth 20000 in
theorem m_J6_bitCount_0f7a4 : q_mt FJ6_bitCount_0f7a4 1 := ⟨q_mm 587 (by decide +kernel) (by decide +kernel), q_mm 47 (by decide +kernel) (by decide +kernel), by decide +kernel, by decide⟩
set_option maxRecDepth 20000 in
theorem m_X7_sweepersCome : q_mt FX7_sweepersCome 2 := ⟨q_mm 595 (by decide +kernel) (by decide +kernel), q_mm 33 (by decide +kernel) (by decide +kernel), by decide +kernel, by decide⟩
set_option maxRecDepth 20000 in
theorem m_X3_lastStart : q_mt FX3_lastStart 1 := ⟨q_mm 599 (by decide +kernel) (by decide +kernel), q_mm 38 (by decide +kernel) (by decide +kernel), by decide +kernel, by decide⟩
set_option maxRecDepth 20000 in
theorem m_X8_init : q_mt FX8_init 0 := ⟨q_mm 605 (by decide +kernel) (by decide +kernel), q_mm 41 (by decide +kernel) (by decide +kernel), by decide +kernel, by decide⟩
set_option maxRecDepth 20000 in
theorem m_X8_camp : q_mt FX8_camp 2 := ⟨q_mm 701 (by decide +kernel) (by decide +kernel), q_mm 41 (by decide +kernel) (by decide +kernel), by decide +kernel, by decide⟩
set_option maxRecDepth 20000 in
theorem m_X8_isCamp : q_mt FX8_isCamp 1 := ⟨q_mm 704 (by decide +kernel) (by decide +kernel), q_mm 41 (by decide +kernel) (by decide +kernel), by decide +kernel, by decide⟩
set_option maxRecDepth 20000 in
theorem m_X8_isIn : q_mt FX8_isIn 3 := ⟨q_mm 707 (by decide +kernel) (by decide +kernel), q_mm 41 (by decide +kernel) (by decide +kernel), by decide +kernel, by decide⟩
set_option maxRecDepth 20000 in
theorem m_X8_hour : q_mt FX8_hour 2 := ⟨q_mm 711 (by decide +kernel) (by decide +kernel), q_mm 41 (by decide +kernel) (by decide +kernel), by decide +kernel, by decide⟩
set_option maxRecDepth 20000 in
theorem m_X8_isStage : q_mt FX8_isStage 1 := ⟨q_mm 714 (by decide +kernel) (by decide +kernel), q_mm 41 (by decide +kernel) (by decide +kernel), by decide +kernel, by decide⟩
set_option maxRecDepth 20000 in
theorem m_X8_racer : q_mt FX8_racer 1 := ⟨q_mm 718 (by decide +kernel) (by decide +kernel), q_mm 41 (by decide +kernel) (by decide +kernel), by decide +kernel, by decide⟩
set_option maxRecDepth 20000 in
theorem m_X8_breaks : q_mt FX8_breaks 3 := ⟨q_mm 722 (by decide +kernel) (by decide +kernel), q_mm 41 (by decide +kernel) (by decide +kernel), by decide +kernel, by decide⟩
set_option maxRecDepth 20000 in
theorem m_X8_isRacer : q_mt FX8_isRacer 1 := ⟨q_mm 726 (by decide +kernel) (by decide +kernel), q_mm 41 (by decide +kernel) (by decide +kernel), by decide +kernel, by decide⟩
set_option maxRecDepth 20000 in
theorem m_X8_length : q_mt FX8_length 1 := ⟨q_mm 730 (by decide +kernel) (by decide +kernel), q_mm 41 (by decide +kernel) (by decide +kernel), by decide +kernel, by decide⟩
set_option maxRecDepth 20000 in
theorem m_X8_set : q_mt FX8_set 2 := ⟨q_mm 734 (by decide +kernel) (by decide +kernel), q_mm 41 (by decide +kernel) (by decide +kernel), by decide +kernel, by decide⟩
set_option maxRecDepth 20000 in
theorem m_X8_feed : q_mt FX8_feed 5 := ⟨q_mm 738 (by decide +kernel) (by decide +kernel), q_mm 41 (by decide +kernel) (by decide +kernel), by decide +kernel, by decide⟩
set_option maxRecDepth 20000 in
theorem m_X8_end : q_mt FX8_end 1 := ⟨q_mm 742 (by decide +kernel) (by decide +kernel), q_mm 41 (by decide +kernel) (by decide +kernel), by decide +kernel, by decide⟩
set_option maxRecDepth 20000 in
theorem m_X8_book : q_mt FX8_book 0 := ⟨q_mm 746 (by decide +kernel) (by decide +kernel), q_mm 41 (by decide +kernel) (by decide +kernel), by decide +kernel, by decide⟩
set_option maxRecDepth 20000 in
theorem m_X8_next0 : q_mt FX8_next0 0 := ⟨q_mm 750 (by decide +kernel) (by decide +kernel), q_mm 41 (by decide +kernel) (by decide +kernel), by decide +kernel, by decide⟩
set_option maxRecDepth 20000 in
theorem m_X8_see : q_mt FX8_see 1 := ⟨q_mm 754 (by decide +kernel) (by decide +kernel), q_mm 41 (by decide +kernel) (by decide +kernel), by decide +kernel, by decide⟩
set_option maxRecDepth 20000 in
theorem m_X8_isLetter : q_mt FX8_isLetter 1 := ⟨q_mm 757 (by decide +kernel) (by decide +kernel), q_mm 41 (by decide +kernel) (by decide +kernel), by decide +kernel, by decide⟩
set_option maxRecDepth 20000 in
theorem m_X8_word : q_mt FX8_word 1 := ⟨q_mm 760 (by decide +kernel) (by decide +kernel), q_mm 41 (by decide +kernel) (by decide +kernel), by decide +kernel, by decide⟩
set_option maxRecDepth 20000 in
theorem m_X8_isDigit : q_mt FX8_isDigit 1 := ⟨q_mm 767 (by decide +kernel) (by decide +kernel), q_mm 41 (by decide +kernel) (by decide +kernel), by decide +kernel, by decide⟩
set_option maxRecDepth 20000 in
theorem m_X8_aZone : q_mt FX8_aZone 0 := ⟨q_mm 771 (by decide +kernel) (by decide +kernel), q_mm 41 (by decide +kernel) (by decide +kernel), by decide +kernel, by decide⟩
set_option maxRecDepth 20000 in
theorem m_X8_need : q_mt FX8_need 1 := ⟨q_mm 775 (by decide +kernel) (by decide +kernel), q_mm 41 (by decide +kernel) (by decide +kernel), by decide +kernel, by decide⟩
set_option maxRecDepth 20000 in
theorem m_X8_bad : q_mt FX8_bad 1 := ⟨q_mm 779 (by decide +kernel) (by decide +kernel), q_mm 41 (by decide +kernel) (by decide +kernel), by decide +kernel, by decide⟩
set_option maxRecDepth 20000 in
theorem m_X8_aNumber : q_mt FX8_aNumber 2 := ⟨q_mm 783 (by decide +kernel) (by decide +kernel), q_mm 41 (by decide +kernel) (by decide +kernel), by decide +kernel, by decide⟩
set_option maxRecDepth 20000 in
theorem m_X8_all : q_mt FX8_all 0 := ⟨q_mm 787 (by decide +kernel) (by decide +kernel), q_mm 41 (by decide +kernel) (by decide +kernel), by decide +kernel, by decide⟩
set_option maxRecDepth 20000 in
theorem m_X8_fault : q_mt FX8_fault 1 := ⟨q_mm 791 (by decide +kernel) (by decide +kernel), q_mm 41 (by decide +kernel) (by decide +kernel), by decide +kernel, by decide⟩
set_option maxRecDepth 20000 in
theorem m_X8_look : q_mt FX8_look 1 := ⟨q_mm 795 (by decide +kernel) (by decide +kernel), q_mm 41 (by decide +kernel) (by decide +kernel), by decide +kernel, by decide⟩
set_option maxRecDepth 20000 in
theorem m_X8_time : q_mt FX8_time 2 := ⟨q_mm 799 (by decide +kernel) (by decide +kernel), q_mm 41 (by decide +kernel) (by decide +kernel), by decide +kernel, by decide⟩
set_option maxRecDepth 20000 in
theorem m_X8_timeOf : q_mt FX8_timeOf 2 := ⟨q_mm 803 (by decide +kernel) (by decide +kernel), q_mm 41 (by decide +kernel) (by decide +kernel), by decide +kernel, by decide⟩
set_option maxRecDepth 20000 in
theorem m_X8_lesser : q_mt FX8_lesser 2 := ⟨q_mm 806 (by decide +kernel) (by decide +kernel), q_mm 41 (by decide +kernel) (by decide +kernel), by decide +kernel, by decide⟩
set_option maxRecDepth 20000 in
theorem m_X8_ran : q_mt FX8_ran 3 := ⟨q_mm 811 (by decide +kernel) (by decide +kernel), q_mm 41 (by decide +kernel) (by decide +kernel), by decide +kernel, by decide⟩
set_option maxRecDepth 20000 in
theorem m_X8_runs : q_mt FX8_runs 0 := ⟨q_mm 815 (by decide +kernel) (by decide +kernel), q_mm 41 (by decide +kernel) (by decide +kernel), by decide +kernel, by decide⟩
set_option maxRecDepth 20000 in
theorem m_X8_comes : q_mt FX8_comes 2 := ⟨q_mm 819 (by decide +kernel) (by decide +kernel), q_mm 41 (by decide +kernel) (by decide +kernel), by decide +kernel, by decide⟩
set_option maxRecDepth 20000 in
theorem m_X8_isAhead : q_mt FX8_isAhead 3 := ⟨q_mm 823 (by decide +kernel) (by decide +kernel), q_mm 41 (by decide +kernel) (by decide +kernel), by decide +kernel, by decide⟩
set_option maxRecDepth 20000 in
theorem m_X8_standing : q_mt FX8_standing 2 := ⟨q_mm 827 (by decide +kernel) (by decide +kernel), q_mm 41 (by decide +kernel) (by decide +kernel), by decide +kernel, by decide⟩
set_option maxRecDepth 20000 in
theorem m_X8_sets : q_mt FX8_sets 0 := ⟨q_mm 831 (by decide +kernel) (by decide +kernel), q_mm 41 (by decide +kernel) (by decide +kernel), by decide +kernel, by decide⟩
set_option maxRecDepth 20000 in
theorem m_X8_finds : q_mt FX8_finds 0 := ⟨q_mm 835 (by decide +kernel) (by decide +kernel), q_mm 41 (by decide +kernel) (by decide +kernel), by decide +kernel, by decide⟩
set_option maxRecDepth 20000 in
theorem m_X8_kitchens : q_mt FX8_kitchens 0 := ⟨q_mm 839 (by decide +kernel) (by decide +kernel), q_mm 41 (by decide +kernel) (by decide +kernel), by decide +kernel, by decide⟩
set_option maxRecDepth 20000 in
theorem m_X8_tries : q_mt FX8_tries 2 := ⟨q_mm 843 (by decide +kernel) (by decide +kernel), q_mm 41 (by decide +kernel) (by decide +kernel), by decide +kernel, by decide⟩
set_option maxRecDepth 20000 in
theorem m_X8_isNeeded : q_mt FX8_isNeeded 1 := ⟨q_mm 847 (by decide +kernel) (by decide +kernel), q_mm 41 (by decide +kernel) (by decide +kernel), by decide +kernel, by decide⟩
set_option maxRecDepth 20000 in
theorem m_X8_canDo : q_mt FX8_canDo 2 := ⟨q_mm 851 (by decide +kernel) (by decide +kernel), q_mm 41 (by decide +kernel) (by decide +kernel), by decide +kernel, by decide⟩
set_option maxRecDepth 20000 in
theorem m_X8_lastOf : q_mt FX8_lastOf 2 := ⟨q_mm 855 (by decide +kernel) (by decide +kernel), q_mm 41 (by decide +kernel) (by decide +kernel), by decide +kernel, by decide⟩
set_option maxRecDepth 20000 in
theorem m_X8_between : q_mt FX8_between 2 := ⟨q_mm 859 (by decide +kernel) (by decide +kernel), q_mm 41 (by decide +kernel) (by decide +kernel), by decide +kernel, by decide⟩
set_option maxRecDepth 20000 in
theorem m_X8_goes : q_mt FX8_goes 1 := ⟨q_mm 863 (by decide +kernel) (by decide +kernel), q_mm 41 (by decide +kernel) (by decide +kernel), by decide +kernel, by decide⟩
set_option maxRecDepth 20000 in
theorem m_X8_of : q_mt FX8_of 2 := ⟨q_mm 867 (by decide +kernel) (by decide +kernel), q_mm 41 (by decide +kernel) (by decide +kernel), by decide +kernel, by decide⟩
set_option maxRecDepth 20000 in
theorem m_X8_sweep : q_mt FX8_sweep 2 := ⟨q_mm 871 (by decide +kernel) (by decide +kernel), q_mm 41 (by decide +kernel) (by decide +kernel), by decide +kernel, by decide⟩
set_option maxRecDepth 20000 in
theorem l_L_9 : Cond.methodLink RL 9 FX7_init.1 ∈ q_T ∧ FX7_init.1.name = "<init>" ∧ Cond.instanceMethod FX7_init.1 ∈ q_T ∧ FX7_init.2.2.2 = none := ⟨q_mm 50 (by decide +kernel) (by decide +kernel), rfl, q_mm 51 (by decide +kernel) (by decide +kernel), rfl⟩
set_option maxRecDepth 20000 in
theorem l_X7_11 : Cond.methodLinkNest RX7 11 FX1_init.1 "DesertTown" ∈ q_nest ∧ FX1_init.1.name = "<init>" ∧ Cond.instanceMethod FX1_init.1 ∈ q_T ∧ FX1_init.2.2.2 = none := ⟨by decide +kernel, rfl, q_mm 59 (by decide +kernel) (by decide +kernel), rfl⟩
set_option maxRecDepth 20000 in
theorem l_X7_18 : Cond.methodLinkNest RX7 18 FX4_init.1 "DesertTown" ∈ q_nest ∧ FX4_init.1.name = "<init>" ∧ Cond.instanceMethod FX4_init.1 ∈ q_T ∧ FX4_init.2.2.2 = none := ⟨by decide +kernel, rfl, q_mm 76 (by decide +kernel) (by decide +kernel), rfl⟩
set_option maxRecDepth 20000 in
theorem l_X7_25 : Cond.methodLinkNest RX7 25 FX6_init.1 "DesertTown" ∈ q_nest ∧ FX6_init.1.name = "<init>" ∧ Cond.instanceMethod FX6_init.1 ∈ q_T ∧ FX6_init.2.2.2 = none := ⟨by decide +kernel, rfl, q_mm 101 (by decide +kernel) (by decide +kernel), rfl⟩
set_option maxRecDepth 20000 in
theorem l_X7_32 : Cond.methodLinkNest RX7 32 FX0_init.1 "DesertTown" ∈ q_nest ∧ FX0_init.1.name = "<init>" ∧ Cond.instanceMethod FX0_init.1 ∈ q_T ∧ FX0_init.2.2.2 = none := ⟨by decide +kernel, rfl, q_mm 117 (by decide +kernel) (by decide +kernel), rfl⟩
set_option maxRecDepth 20000 in
theorem l_X7_39 : Cond.methodLinkNest RX7 39 FX3_init.1 "DesertTown" ∈ q_nest ∧ FX3_init.1.name = "<init>" ∧ Cond.instanceMethod FX3_init.1 ∈ q_T ∧ FX3_init.2.2.2 = none := ⟨by decide +kernel, rfl, q_mm 144 (by decide +kernel) (by decide +kernel), rfl⟩
set_option maxRecDepth 20000 in
theorem l_X7_46 : Cond.methodLinkNest RX7 46 FX2_init.1 "DesertTown" ∈ q_nest ∧ FX2_init.1.name = "<init>" ∧ Cond.instanceMethod FX2_init.1 ∈ q_T ∧ FX2_init.2.2.2 = none := ⟨by decide +kernel, rfl, q_mm 188 (by decide +kernel) (by decide +kernel), rfl⟩
set_option maxRecDepth 20000 in
theorem l_X7_57 : Cond.methodLinkNest RX7 57 FX5_init.1 "DesertTown" ∈ q_nest ∧ FX5_init.1.name = "<init>" ∧ Cond.instanceMethod FX5_init.1 ∈ q_T ∧ FX5_init.2.2.2 = none := ⟨by decide +kernel, rfl, q_mm 223 (by decide +kernel) (by decide +kernel), rfl⟩
set_option maxRecDepth 20000 in
theorem l_L_13 : Cond.methodLink RL 13 FX7_camp.1 ∈ q_T ∧ Cond.instanceMethod FX7_camp.1 ∈ q_T ∧ Cond.selects FX7_camp.1.cls FX7_camp.1 FX7_camp.1 ∈ q_T := ⟨q_mm 279 (by decide +kernel) (by decide +kernel), q_mm 280 (by decide +kernel) (by decide +kernel), q_mm 281 (by decide +kernel) (by decide +kernel)⟩
set_option maxRecDepth 20000 in
theorem l_X7_69 : Cond.methodLink RX7 69 FX7_isCamp.1 ∈ q_T ∧ Cond.static FX7_isCamp.1 ∈ q_T := ⟨q_mm 283 (by decide +kernel) (by decide +kernel), q_mm 284 (by decide +kernel) (by decide +kernel)⟩
set_option maxRecDepth 20000 in
theorem l_X7_73 : Cond.methodLink RX7 73 FX7_within.1 ∈ q_T ∧ Cond.static FX7_within.1 ∈ q_T := ⟨q_mm 286 (by decide +kernel) (by decide +kernel), q_mm 287 (by decide +kernel) (by decide +kernel)⟩
set_option maxRecDepth 20000 in
theorem l_X7_80 : Cond.methodLink RX7 80 FX4_forgetBreaksFrom.1 ∈ q_T ∧ Cond.instanceMethod FX4_forgetBreaksFrom.1 ∈ q_T ∧ Cond.selects FX4_forgetBreaksFrom.1.cls FX4_forgetBreaksFrom.1 FX4_forgetBreaksFrom.1 ∈ q_T := ⟨q_mm 289 (by decide +kernel) (by decide +kernel), q_mm 290 (by decide +kernel) (by decide +kernel), q_mm 291 (by decide +kernel) (by decide +kernel)⟩
set_option maxRecDepth 20000 in
theorem l_L_18 : Cond.methodLink RL 18 FX7_hour.1 ∈ q_T ∧ Cond.instanceMethod FX7_hour.1 ∈ q_T ∧ Cond.selects FX7_hour.1.cls FX7_hour.1 FX7_hour.1 ∈ q_T := ⟨q_mm 293 (by decide +kernel) (by decide +kernel), q_mm 294 (by decide +kernel) (by decide +kernel), q_mm 295 (by decide +kernel) (by decide +kernel)⟩
set_option maxRecDepth 20000 in
theorem l_X7_84 : Cond.methodLink RX7 84 FX7_isStage.1 ∈ q_T ∧ Cond.static FX7_isStage.1 ∈ q_T := ⟨q_mm 297 (by decide +kernel) (by decide +kernel), q_mm 298 (by decide +kernel) (by decide +kernel)⟩
set_option maxRecDepth 20000 in
theorem l_L_22 : Cond.methodLink RL 22 FX7_racer.1 ∈ q_T ∧ Cond.instanceMethod FX7_racer.1 ∈ q_T ∧ Cond.selects FX7_racer.1.cls FX7_racer.1 FX7_racer.1 ∈ q_T := ⟨q_mm 300 (by decide +kernel) (by decide +kernel), q_mm 301 (by decide +kernel) (by decide +kernel), q_mm 302 (by decide +kernel) (by decide +kernel)⟩
set_option maxRecDepth 20000 in
theorem l_X7_90 : Cond.methodLink RX7 90 FX4_add.1 ∈ q_T ∧ Cond.instanceMethod FX4_add.1 ∈ q_T ∧ Cond.selects FX4_add.1.cls FX4_add.1 FX4_add.1 ∈ q_T := ⟨q_mm 304 (by decide +kernel) (by decide +kernel), q_mm 305 (by decide +kernel) (by decide +kernel), q_mm 306 (by decide +kernel) (by decide +kernel)⟩
set_option maxRecDepth 20000 in
theorem l_L_27 : Cond.methodLink RL 27 FX7_breaks.1 ∈ q_T ∧ Cond.instanceMethod FX7_breaks.1 ∈ q_T ∧ Cond.selects FX7_breaks.1.cls FX7_breaks.1 FX7_breaks.1 ∈ q_T := ⟨q_mm 308 (by decide +kernel) (by decide +kernel), q_mm 309 (by decide +kernel) (by decide +kernel), q_mm 310 (by decide +kernel) (by decide +kernel)⟩
set_option maxRecDepth 20000 in
theorem l_X7_94 : Cond.methodLink RX7 94 FX4_has.1 ∈ q_T ∧ Cond.instanceMethod FX4_has.1 ∈ q_T ∧ Cond.selects FX4_has.1.cls FX4_has.1 FX4_has.1 ∈ q_T := ⟨q_mm 312 (by decide +kernel) (by decide +kernel), q_mm 313 (by decide +kernel) (by decide +kernel), q_mm 314 (by decide +kernel) (by decide +kernel)⟩
set_option maxRecDepth 20000 in
theorem l_X4_25 : Cond.methodLinkNest RX4 25 FX7_within.1 "DesertTown" ∈ q_nest ∧ Cond.static FX7_within.1 ∈ q_T := ⟨by decide +kernel, q_mm 287 (by decide +kernel) (by decide +kernel)⟩
set_option maxRecDepth 20000 in
theorem l_L_32 : Cond.methodLink RL 32 FX7_set.1 ∈ q_T ∧ Cond.instanceMethod FX7_set.1 ∈ q_T ∧ Cond.selects FX7_set.1.cls FX7_set.1 FX7_set.1 ∈ q_T := ⟨q_mm 317 (by decide +kernel) (by decide +kernel), q_mm 318 (by decide +kernel) (by decide +kernel), q_mm 319 (by decide +kernel) (by decide +kernel)⟩
set_option maxRecDepth 20000 in
theorem l_L_36 : Cond.methodLink RL 36 FX7_feed.1 ∈ q_T ∧ Cond.instanceMethod FX7_feed.1 ∈ q_T ∧ Cond.selects FX7_feed.1.cls FX7_feed.1 FX7_feed.1 ∈ q_T := ⟨q_mm 325 (by decide +kernel) (by decide +kernel), q_mm 326 (by decide +kernel) (by decide +kernel), q_mm 327 (by decide +kernel) (by decide +kernel)⟩
set_option maxRecDepth 20000 in
theorem l_X7_113 : Cond.methodLink RX7 113 FX6_append.1 ∈ q_T ∧ Cond.instanceMethod FX6_append.1 ∈ q_T ∧ Cond.selects FX6_append.1.cls FX6_append.1 FX6_append.1 ∈ q_T := ⟨q_mm 329 (by decide +kernel) (by decide +kernel), q_mm 330 (by decide +kernel) (by decide +kernel), q_mm 331 (by decide +kernel) (by decide +kernel)⟩
set_option maxRecDepth 20000 in
theorem l_L_41 : Cond.methodLink RL 41 FX7_end.1 ∈ q_T ∧ Cond.instanceMethod FX7_end.1 ∈ q_T ∧ Cond.selects FX7_end.1.cls FX7_end.1 FX7_end.1 ∈ q_T := ⟨q_mm 333 (by decide +kernel) (by decide +kernel), q_mm 334 (by decide +kernel) (by decide +kernel), q_mm 335 (by decide +kernel) (by decide +kernel)⟩
set_option maxRecDepth 20000 in
theorem l_L_46 : Cond.methodLink RL 46 FX7_book.1 ∈ q_T ∧ Cond.instanceMethod FX7_book.1 ∈ q_T ∧ Cond.selects FX7_book.1.cls FX7_book.1 FX7_book.1 ∈ q_T := ⟨q_mm 337 (by decide +kernel) (by decide +kernel), q_mm 338 (by decide +kernel) (by decide +kernel), q_mm 339 (by decide +kernel) (by decide +kernel)⟩
set_option maxRecDepth 20000 in
theorem l_X7_117 : Cond.methodLink RX7 117 FX0_read.1 ∈ q_T ∧ Cond.instanceMethod FX0_read.1 ∈ q_T ∧ Cond.selects FX0_read.1.cls FX0_read.1 FX0_read.1 ∈ q_T := ⟨q_mm 341 (by decide +kernel) (by decide +kernel), q_mm 342 (by decide +kernel) (by decide +kernel), q_mm 343 (by decide +kernel) (by decide +kernel)⟩
set_option maxRecDepth 20000 in
theorem l_X0_15 : Cond.methodLink RX0 15 FX5_clear.1 ∈ q_T ∧ Cond.instanceMethod FX5_clear.1 ∈ q_T ∧ Cond.selects FX5_clear.1.cls FX5_clear.1 FX5_clear.1 ∈ q_T := ⟨q_mm 345 (by decide +kernel) (by decide +kernel), q_mm 346 (by decide +kernel) (by decide +kernel), q_mm 347 (by decide +kernel) (by decide +kernel)⟩
set_option maxRecDepth 20000 in
theorem l_X0_23 : Cond.methodLink RX0 23 FX0_behindBlanks.1 ∈ q_T ∧ Cond.static FX0_behindBlanks.1 ∈ q_T := ⟨q_mm 349 (by decide +kernel) (by decide +kernel), q_mm 350 (by decide +kernel) (by decide +kernel)⟩
set_option maxRecDepth 20000 in
theorem l_X0_39 : Cond.methodLink RX0 39 FX6_byteAt.1 ∈ q_T ∧ Cond.instanceMethod FX6_byteAt.1 ∈ q_T ∧ Cond.selects FX6_byteAt.1.cls FX6_byteAt.1 FX6_byteAt.1 ∈ q_T := ⟨q_mm 352 (by decide +kernel) (by decide +kernel), q_mm 353 (by decide +kernel) (by decide +kernel), q_mm 354 (by decide +kernel) (by decide +kernel)⟩
set_option maxRecDepth 20000 in
theorem l_X6_19 : Cond.methodLinkNest RX6 19 FX7_within.1 "DesertTown" ∈ q_nest ∧ Cond.static FX7_within.1 ∈ q_T := ⟨by decide +kernel, q_mm 287 (by decide +kernel) (by decide +kernel)⟩
set_option maxRecDepth 20000 in
theorem l_X0_95 : Cond.methodLink RX0 95 FX0_isBlank.1 ∈ q_T ∧ Cond.static FX0_isBlank.1 ∈ q_T := ⟨q_mm 357 (by decide +kernel) (by decide +kernel), q_mm 358 (by decide +kernel) (by decide +kernel)⟩
set_option maxRecDepth 20000 in
theorem l_X0_32 : Cond.methodLink RX0 32 FX0_behindToken.1 ∈ q_T ∧ Cond.static FX0_behindToken.1 ∈ q_T := ⟨q_mm 360 (by decide +kernel) (by decide +kernel), q_mm 361 (by decide +kernel) (by decide +kernel)⟩
set_option maxRecDepth 20000 in
theorem l_X0_98 : Cond.methodLink RX0 98 FX0_isLetter.1 ∈ q_T ∧ Cond.static FX0_isLetter.1 ∈ q_T := ⟨q_mm 363 (by decide +kernel) (by decide +kernel), q_mm 364 (by decide +kernel) (by decide +kernel)⟩
set_option maxRecDepth 20000 in
theorem l_X0_85 : Cond.methodLinkNest RX0 85 FX7_within.1 "DesertTown" ∈ q_nest ∧ Cond.static FX7_within.1 ∈ q_T := ⟨by decide +kernel, q_mm 287 (by decide +kernel) (by decide +kernel)⟩
set_option maxRecDepth 20000 in
theorem l_X0_101 : Cond.methodLink RX0 101 FX0_isDigit.1 ∈ q_T ∧ Cond.static FX0_isDigit.1 ∈ q_T := ⟨q_mm 367 (by decide +kernel) (by decide +kernel), q_mm 368 (by decide +kernel) (by decide +kernel)⟩
set_option maxRecDepth 20000 in
theorem l_X0_35 : Cond.methodLink RX0 35 FX0_faultOf.1 ∈ q_T ∧ Cond.instanceMethod FX0_faultOf.1 ∈ q_T ∧ Cond.selects FX0_faultOf.1.cls FX0_faultOf.1 FX0_faultOf.1 ∈ q_T := ⟨q_mm 370 (by decide +kernel) (by decide +kernel), q_mm 372 (by decide +kernel) (by decide +kernel), q_mm 0 (by decide +kernel) (by decide +kernel)⟩
set_option maxRecDepth 20000 in
theorem l_X0_55 : Cond.methodLink RX0 55 FX5_add.1 ∈ q_T ∧ Cond.instanceMethod FX5_add.1 ∈ q_T ∧ Cond.selects FX5_add.1.cls FX5_add.1 FX5_add.1 ∈ q_T := ⟨q_mm 374 (by decide +kernel) (by decide +kernel), q_mm 375 (by decide +kernel) (by decide +kernel), q_mm 376 (by decide +kernel) (by decide +kernel)⟩
set_option maxRecDepth 20000 in
theorem l_X5_38 : Cond.methodLink RX5 38 FX5_isFull.1 ∈ q_T ∧ Cond.instanceMethod FX5_isFull.1 ∈ q_T ∧ Cond.selects FX5_isFull.1.cls FX5_isFull.1 FX5_isFull.1 ∈ q_T := ⟨q_mm 378 (by decide +kernel) (by decide +kernel), q_mm 379 (by decide +kernel) (by decide +kernel), q_mm 380 (by decide +kernel) (by decide +kernel)⟩
set_option maxRecDepth 20000 in
theorem l_X5_30 : Cond.methodLinkNest RX5 30 FX7_isStage.1 "DesertTown" ∈ q_nest ∧ Cond.static FX7_isStage.1 ∈ q_T := ⟨by decide +kernel, q_mm 298 (by decide +kernel) (by decide +kernel)⟩
set_option maxRecDepth 20000 in
theorem l_X0_59 : Cond.methodLink RX0 59 FX0_keywordOf.1 ∈ q_T ∧ Cond.static FX0_keywordOf.1 ∈ q_T := ⟨q_mm 383 (by decide +kernel) (by decide +kernel), q_mm 384 (by decide +kernel) (by decide +kernel)⟩
set_option maxRecDepth 20000 in
theorem l_X0_63 : Cond.methodLink RX0 63 FX0_isWord.1 ∈ q_T ∧ Cond.static FX0_isWord.1 ∈ q_T := ⟨q_mm 390 (by decide +kernel) (by decide +kernel), q_mm 391 (by decide +kernel) (by decide +kernel)⟩
set_option maxRecDepth 20000 in
theorem l_X0_104 : Cond.methodLink RX0 104 FJ0_length_8abf5.1 ∈ q_T ∧ Cond.instanceMethod FJ0_length_8abf5.1 ∈ q_T ∧ Cond.selects FJ0_length_8abf5.1.cls FJ0_length_8abf5.1 FJ0_length_8abf5.1 ∈ q_T := ⟨q_mm 393 (by decide +kernel) (by decide +kernel), q_mm 394 (by decide +kernel) (by decide +kernel), q_mm 395 (by decide +kernel) (by decide +kernel)⟩
set_option maxRecDepth 20000 in
theorem l_J0_335 : Cond.methodLink RJ0 335 FJ0_coder_7d493.1 ∈ q_T ∧ Cond.instanceMethod FJ0_coder_7d493.1 ∈ q_T ∧ Cond.selects FJ0_coder_7d493.1.cls FJ0_coder_7d493.1 FJ0_coder_7d493.1 ∈ q_T := ⟨q_mm 397 (by decide +kernel) (by decide +kernel), q_mm 398 (by decide +kernel) (by decide +kernel), q_mm 399 (by decide +kernel) (by decide +kernel)⟩
set_option maxRecDepth 20000 in
theorem l_X0_109 : Cond.methodLink RX0 109 FJ0_charAt_5068e.1 ∈ q_T ∧ Cond.instanceMethod FJ0_charAt_5068e.1 ∈ q_T ∧ Cond.selects FJ0_charAt_5068e.1.cls FJ0_charAt_5068e.1 FJ0_charAt_5068e.1 ∈ q_T := ⟨q_mm 403 (by decide +kernel) (by decide +kernel), q_mm 404 (by decide +kernel) (by decide +kernel), q_mm 405 (by decide +kernel) (by decide +kernel)⟩
set_option maxRecDepth 20000 in
theorem l_J0_492 : Cond.methodLink RJ0 492 FJ0_isLatin1_aae02.1 ∈ q_T ∧ Cond.instanceMethod FJ0_isLatin1_aae02.1 ∈ q_T ∧ Cond.selects FJ0_isLatin1_aae02.1.cls FJ0_isLatin1_aae02.1 FJ0_isLatin1_aae02.1 ∈ q_T := ⟨q_mm 407 (by decide +kernel) (by decide +kernel), q_mm 408 (by decide +kernel) (by decide +kernel), q_mm 409 (by decide +kernel) (by decide +kernel)⟩
set_option maxRecDepth 20000 in
theorem l_J0_495 : Cond.methodLink RJ0 495 FJ1_charAt_3b067.1 ∈ q_T ∧ Cond.static FJ1_charAt_3b067.1 ∈ q_T := ⟨q_mm 411 (by decide +kernel) (by decide +kernel), q_mm 412 (by decide +kernel) (by decide +kernel)⟩
set_option maxRecDepth 20000 in
theorem l_J1_9 : Cond.methodLink RJ1 9 FJ0_checkIndex_df160.1 ∈ q_T ∧ Cond.static FJ0_checkIndex_df160.1 ∈ q_T := ⟨q_mm 414 (by decide +kernel) (by decide +kernel), q_mm 415 (by decide +kernel) (by decide +kernel)⟩
set_option maxRecDepth 20000 in
theorem l_J0_1059 : Cond.methodLink RJ0 1059 FJ3_checkIndex_8e157.1 ∈ q_T ∧ Cond.static FJ3_checkIndex_8e157.1 ∈ q_T := ⟨q_mm 419 (by decide +kernel) (by decide +kernel), q_mm 420 (by decide +kernel) (by decide +kernel)⟩
set_option maxRecDepth 20000 in
theorem l_J0_498 : Cond.methodLink RJ0 498 FJ2_charAt_3b067.1 ∈ q_T ∧ Cond.static FJ2_charAt_3b067.1 ∈ q_T := ⟨q_mm 422 (by decide +kernel) (by decide +kernel), q_mm 423 (by decide +kernel) (by decide +kernel)⟩
set_option maxRecDepth 20000 in
theorem l_J2_67 : Cond.methodLink RJ2 67 FJ2_checkIndex_2214a.1 ∈ q_T ∧ Cond.static FJ2_checkIndex_2214a.1 ∈ q_T := ⟨q_mm 425 (by decide +kernel) (by decide +kernel), q_mm 426 (by decide +kernel) (by decide +kernel)⟩
set_option maxRecDepth 20000 in
theorem l_J2_48 : Cond.methodLink RJ2 48 FJ2_length_9d52b.1 ∈ q_T ∧ Cond.static FJ2_length_9d52b.1 ∈ q_T := ⟨q_mm 428 (by decide +kernel) (by decide +kernel), q_mm 429 (by decide +kernel) (by decide +kernel)⟩
set_option maxRecDepth 20000 in
theorem l_J2_414 : Cond.methodLink RJ2 414 FJ0_checkIndex_df160.1 ∈ q_T ∧ Cond.static FJ0_checkIndex_df160.1 ∈ q_T := ⟨q_mm 431 (by decide +kernel) (by decide +kernel), q_mm 415 (by decide +kernel) (by decide +kernel)⟩
set_option maxRecDepth 20000 in
theorem l_J2_71 : Cond.methodLink RJ2 71 FJ2_getChar_3b067.1 ∈ q_T ∧ Cond.static FJ2_getChar_3b067.1 ∈ q_T := ⟨q_mm 432 (by decide +kernel) (by decide +kernel), q_mm 433 (by decide +kernel) (by decide +kernel)⟩
set_option maxRecDepth 20000 in
theorem l_X0_67 : Cond.methodLink RX0 67 FX0_numberOf.1 ∈ q_T ∧ Cond.static FX0_numberOf.1 ∈ q_T := ⟨q_mm 441 (by decide +kernel) (by decide +kernel), q_mm 442 (by decide +kernel) (by decide +kernel)⟩
set_option maxRecDepth 20000 in
theorem l_X0_71 : Cond.methodLink RX0 71 FX0_faultOfNumber.1 ∈ q_T ∧ Cond.instanceMethod FX0_faultOfNumber.1 ∈ q_T ∧ Cond.selects FX0_faultOfNumber.1.cls FX0_faultOfNumber.1 FX0_faultOfNumber.1 ∈ q_T := ⟨q_mm 444 (by decide +kernel) (by decide +kernel), q_mm 446 (by decide +kernel) (by decide +kernel), q_mm 1 (by decide +kernel) (by decide +kernel)⟩
set_option maxRecDepth 20000 in
theorem l_X0_75 : Cond.methodLinkNest RX0 75 FX7_isStage.1 "DesertTown" ∈ q_nest ∧ Cond.static FX7_isStage.1 ∈ q_T := ⟨by decide +kernel, q_mm 298 (by decide +kernel) (by decide +kernel)⟩
set_option maxRecDepth 20000 in
theorem l_X0_79 : Cond.methodLink RX0 79 FX5_isFull.1 ∈ q_T ∧ Cond.instanceMethod FX5_isFull.1 ∈ q_T ∧ Cond.selects FX5_isFull.1.cls FX5_isFull.1 FX5_isFull.1 ∈ q_T := ⟨q_mm 449 (by decide +kernel) (by decide +kernel), q_mm 379 (by decide +kernel) (by decide +kernel), q_mm 380 (by decide +kernel) (by decide +kernel)⟩
set_option maxRecDepth 20000 in
theorem l_X0_82 : Cond.methodLink RX0 82 FX5_reach.1 ∈ q_T ∧ Cond.instanceMethod FX5_reach.1 ∈ q_T ∧ Cond.selects FX5_reach.1.cls FX5_reach.1 FX5_reach.1 ∈ q_T := ⟨q_mm 450 (by decide +kernel) (by decide +kernel), q_mm 451 (by decide +kernel) (by decide +kernel), q_mm 452 (by decide +kernel) (by decide +kernel)⟩
set_option maxRecDepth 20000 in
theorem l_X5_34 : Cond.methodLinkNest RX5 34 FX7_within.1 "DesertTown" ∈ q_nest ∧ Cond.static FX7_within.1 ∈ q_T := ⟨by decide +kernel, q_mm 287 (by decide +kernel) (by decide +kernel)⟩
set_option maxRecDepth 20000 in
theorem l_L_51 : Cond.methodLink RL 51 FX7_fault.1 ∈ q_T ∧ Cond.instanceMethod FX7_fault.1 ∈ q_T ∧ Cond.selects FX7_fault.1.cls FX7_fault.1 FX7_fault.1 ∈ q_T := ⟨q_mm 455 (by decide +kernel) (by decide +kernel), q_mm 456 (by decide +kernel) (by decide +kernel), q_mm 457 (by decide +kernel) (by decide +kernel)⟩
set_option maxRecDepth 20000 in
theorem l_L_55 : Cond.methodLink RL 55 FX7_look.1 ∈ q_T ∧ Cond.instanceMethod FX7_look.1 ∈ q_T ∧ Cond.selects FX7_look.1.cls FX7_look.1 FX7_look.1 ∈ q_T := ⟨q_mm 459 (by decide +kernel) (by decide +kernel), q_mm 460 (by decide +kernel) (by decide +kernel), q_mm 461 (by decide +kernel) (by decide +kernel)⟩
set_option maxRecDepth 20000 in
theorem l_X7_133 : Cond.methodLink RX7 133 FX1_kilometerOf.1 ∈ q_T ∧ Cond.instanceMethod FX1_kilometerOf.1 ∈ q_T ∧ Cond.selects FX1_kilometerOf.1.cls FX1_kilometerOf.1 FX1_kilometerOf.1 ∈ q_T := ⟨q_mm 463 (by decide +kernel) (by decide +kernel), q_mm 464 (by decide +kernel) (by decide +kernel), q_mm 465 (by decide +kernel) (by decide +kernel)⟩
set_option maxRecDepth 20000 in
theorem l_L_59 : Cond.methodLink RL 59 FX7_time.1 ∈ q_T ∧ Cond.instanceMethod FX7_time.1 ∈ q_T ∧ Cond.selects FX7_time.1.cls FX7_time.1 FX7_time.1 ∈ q_T := ⟨q_mm 467 (by decide +kernel) (by decide +kernel), q_mm 468 (by decide +kernel) (by decide +kernel), q_mm 469 (by decide +kernel) (by decide +kernel)⟩
set_option maxRecDepth 20000 in
theorem l_X7_136 : Cond.methodLink RX7 136 FX7_settle.1 ∈ q_T ∧ Cond.instanceMethod FX7_settle.1 ∈ q_T ∧ Cond.selects FX7_settle.1.cls FX7_settle.1 FX7_settle.1 ∈ q_T := ⟨q_mm 471 (by decide +kernel) (by decide +kernel), q_mm 473 (by decide +kernel) (by decide +kernel), q_mm 2 (by decide +kernel) (by decide +kernel)⟩
set_option maxRecDepth 20000 in
theorem l_X7_206 : Cond.methodLink RX7 206 FX3_run.1 ∈ q_T ∧ Cond.instanceMethod FX3_run.1 ∈ q_T ∧ Cond.selects FX3_run.1.cls FX3_run.1 FX3_run.1 ∈ q_T := ⟨q_mm 475 (by decide +kernel) (by decide +kernel), q_mm 476 (by decide +kernel) (by decide +kernel), q_mm 477 (by decide +kernel) (by decide +kernel)⟩
set_option maxRecDepth 20000 in
theorem l_X3_41 : Cond.methodLink RX3 41 FX3_forget.1 ∈ q_T ∧ Cond.instanceMethod FX3_forget.1 ∈ q_T ∧ Cond.selects FX3_forget.1.cls FX3_forget.1 FX3_forget.1 ∈ q_T := ⟨q_mm 479 (by decide +kernel) (by decide +kernel), q_mm 481 (by decide +kernel) (by decide +kernel), q_mm 3 (by decide +kernel) (by decide +kernel)⟩
set_option maxRecDepth 20000 in
theorem l_X3_45 : Cond.methodLink RX3 45 FX1_begins.1 ∈ q_T ∧ Cond.instanceMethod FX1_begins.1 ∈ q_T ∧ Cond.selects FX1_begins.1.cls FX1_begins.1 FX1_begins.1 ∈ q_T := ⟨q_mm 483 (by decide +kernel) (by decide +kernel), q_mm 484 (by decide +kernel) (by decide +kernel), q_mm 485 (by decide +kernel) (by decide +kernel)⟩
set_option maxRecDepth 20000 in
theorem l_X1_18 : Cond.methodLinkNest RX1 18 FX7_isStage.1 "DesertTown" ∈ q_nest ∧ Cond.static FX7_isStage.1 ∈ q_T := ⟨by decide +kernel, q_mm 298 (by decide +kernel) (by decide +kernel)⟩
set_option maxRecDepth 20000 in
theorem l_X3_62 : Cond.methodLink RX3 62 FX3_timeFor.1 ∈ q_T ∧ Cond.static FX3_timeFor.1 ∈ q_T := ⟨q_mm 488 (by decide +kernel) (by decide +kernel), q_mm 489 (by decide +kernel) (by decide +kernel)⟩
set_option maxRecDepth 20000 in
theorem l_X3_80 : Cond.methodLink RX3 80 FJ9_min_7cf53.1 ∈ q_T ∧ Cond.static FJ9_min_7cf53.1 ∈ q_T := ⟨q_mm 491 (by decide +kernel) (by decide +kernel), q_mm 492 (by decide +kernel) (by decide +kernel)⟩
set_option maxRecDepth 20000 in
theorem l_X3_112 : Cond.methodLinkNest RX3 112 FX7_divideUpwards.1 "DesertTown" ∈ q_nest ∧ Cond.static FX7_divideUpwards.1 ∈ q_T := ⟨by decide +kernel, q_mm 496 (by decide +kernel) (by decide +kernel)⟩
set_option maxRecDepth 20000 in
theorem l_X3_66 : Cond.methodLink RX3 66 FX3_runStage.1 ∈ q_T ∧ Cond.instanceMethod FX3_runStage.1 ∈ q_T ∧ Cond.selects FX3_runStage.1.cls FX3_runStage.1 FX3_runStage.1 ∈ q_T := ⟨q_mm 498 (by decide +kernel) (by decide +kernel), q_mm 500 (by decide +kernel) (by decide +kernel), q_mm 4 (by decide +kernel) (by decide +kernel)⟩
set_option maxRecDepth 20000 in
theorem l_X3_89 : Cond.methodLink RX3 89 FX3_rank.1 ∈ q_T ∧ Cond.instanceMethod FX3_rank.1 ∈ q_T ∧ Cond.selects FX3_rank.1.cls FX3_rank.1 FX3_rank.1 ∈ q_T := ⟨q_mm 502 (by decide +kernel) (by decide +kernel), q_mm 504 (by decide +kernel) (by decide +kernel), q_mm 5 (by decide +kernel) (by decide +kernel)⟩
set_option maxRecDepth 20000 in
theorem l_X3_93 : Cond.methodLink RX3 93 FX3_isAhead.1 ∈ q_T ∧ Cond.instanceMethod FX3_isAhead.1 ∈ q_T ∧ Cond.selects FX3_isAhead.1.cls FX3_isAhead.1 FX3_isAhead.1 ∈ q_T := ⟨q_mm 506 (by decide +kernel) (by decide +kernel), q_mm 508 (by decide +kernel) (by decide +kernel), q_mm 6 (by decide +kernel) (by decide +kernel)⟩
set_option maxRecDepth 20000 in
theorem l_X3_70 : Cond.methodLink RX3 70 FX3_tellPlaces.1 ∈ q_T ∧ Cond.instanceMethod FX3_tellPlaces.1 ∈ q_T ∧ Cond.selects FX3_tellPlaces.1.cls FX3_tellPlaces.1 FX3_tellPlaces.1 ∈ q_T := ⟨q_mm 510 (by decide +kernel) (by decide +kernel), q_mm 512 (by decide +kernel) (by decide +kernel), q_mm 7 (by decide +kernel) (by decide +kernel)⟩
set_option maxRecDepth 20000 in
theorem l_X7_210 : Cond.methodLink RX7 210 FX2_plan.1 ∈ q_T ∧ Cond.instanceMethod FX2_plan.1 ∈ q_T ∧ Cond.selects FX2_plan.1.cls FX2_plan.1 FX2_plan.1 ∈ q_T := ⟨q_mm 514 (by decide +kernel) (by decide +kernel), q_mm 515 (by decide +kernel) (by decide +kernel), q_mm 516 (by decide +kernel) (by decide +kernel)⟩
set_option maxRecDepth 20000 in
theorem l_X2_39 : Cond.methodLink RX2 39 FX3_firstArrival.1 ∈ q_T ∧ Cond.instanceMethod FX3_firstArrival.1 ∈ q_T ∧ Cond.selects FX3_firstArrival.1.cls FX3_firstArrival.1 FX3_firstArrival.1 ∈ q_T := ⟨q_mm 518 (by decide +kernel) (by decide +kernel), q_mm 519 (by decide +kernel) (by decide +kernel), q_mm 520 (by decide +kernel) (by decide +kernel)⟩
set_option maxRecDepth 20000 in
theorem l_X3_73 : Cond.methodLinkNest RX3 73 FX7_isStage.1 "DesertTown" ∈ q_nest ∧ Cond.static FX7_isStage.1 ∈ q_T := ⟨by decide +kernel, q_mm 298 (by decide +kernel) (by decide +kernel)⟩
set_option maxRecDepth 20000 in
theorem l_X2_43 : Cond.methodLink RX2 43 FX3_lastArrival.1 ∈ q_T ∧ Cond.instanceMethod FX3_lastArrival.1 ∈ q_T ∧ Cond.selects FX3_lastArrival.1.cls FX3_lastArrival.1 FX3_lastArrival.1 ∈ q_T := ⟨q_mm 523 (by decide +kernel) (by decide +kernel), q_mm 524 (by decide +kernel) (by decide +kernel), q_mm 525 (by decide +kernel) (by decide +kernel)⟩
set_option maxRecDepth 20000 in
theorem l_X3_86 : Cond.methodLink RX3 86 FJ9_max_7cf53.1 ∈ q_T ∧ Cond.static FJ9_max_7cf53.1 ∈ q_T := ⟨q_mm 527 (by decide +kernel) (by decide +kernel), q_mm 528 (by decide +kernel) (by decide +kernel)⟩
set_option maxRecDepth 20000 in
theorem l_X2_46 : Cond.methodLink RX2 46 FX1_kilometerOf.1 ∈ q_T ∧ Cond.instanceMethod FX1_kilometerOf.1 ∈ q_T ∧ Cond.selects FX1_kilometerOf.1.cls FX1_kilometerOf.1 FX1_kilometerOf.1 ∈ q_T := ⟨q_mm 530 (by decide +kernel) (by decide +kernel), q_mm 464 (by decide +kernel) (by decide +kernel), q_mm 465 (by decide +kernel) (by decide +kernel)⟩
set_option maxRecDepth 20000 in
theorem l_X2_51 : Cond.methodLink RX2 51 FX2_fewestSets.1 ∈ q_T ∧ Cond.instanceMethod FX2_fewestSets.1 ∈ q_T ∧ Cond.selects FX2_fewestSets.1.cls FX2_fewestSets.1 FX2_fewestSets.1 ∈ q_T := ⟨q_mm 531 (by decide +kernel) (by decide +kernel), q_mm 533 (by decide +kernel) (by decide +kernel), q_mm 8 (by decide +kernel) (by decide +kernel)⟩
set_option maxRecDepth 20000 in
theorem l_X2_58 : Cond.methodLink RX2 58 FX2_share.1 ∈ q_T ∧ Cond.instanceMethod FX2_share.1 ∈ q_T ∧ Cond.selects FX2_share.1.cls FX2_share.1 FX2_share.1 ∈ q_T := ⟨q_mm 535 (by decide +kernel) (by decide +kernel), q_mm 537 (by decide +kernel) (by decide +kernel), q_mm 9 (by decide +kernel) (by decide +kernel)⟩
set_option maxRecDepth 20000 in
theorem l_X2_62 : Cond.methodLink RX2 62 FX2_canDo.1 ∈ q_T ∧ Cond.instanceMethod FX2_canDo.1 ∈ q_T ∧ Cond.selects FX2_canDo.1.cls FX2_canDo.1 FX2_canDo.1 ∈ q_T := ⟨q_mm 539 (by decide +kernel) (by decide +kernel), q_mm 541 (by decide +kernel) (by decide +kernel), q_mm 10 (by decide +kernel) (by decide +kernel)⟩
set_option maxRecDepth 20000 in
theorem l_X2_66 : Cond.methodLinkNest RX2 66 FX7_minutesFor.1 "DesertTown" ∈ q_nest ∧ Cond.static FX7_minutesFor.1 ∈ q_T := ⟨by decide +kernel, q_mm 544 (by decide +kernel) (by decide +kernel)⟩
set_option maxRecDepth 20000 in
theorem l_X7_172 : Cond.methodLink RX7 172 FX7_divideUpwards.1 ∈ q_T ∧ Cond.static FX7_divideUpwards.1 ∈ q_T := ⟨q_mm 547 (by decide +kernel) (by decide +kernel), q_mm 496 (by decide +kernel) (by decide +kernel)⟩
set_option maxRecDepth 20000 in
theorem l_L_64 : Cond.methodLink RL 64 FX7_ran.1 ∈ q_T ∧ Cond.instanceMethod FX7_ran.1 ∈ q_T ∧ Cond.selects FX7_ran.1.cls FX7_ran.1 FX7_ran.1 ∈ q_T := ⟨q_mm 548 (by decide +kernel) (by decide +kernel), q_mm 549 (by decide +kernel) (by decide +kernel), q_mm 550 (by decide +kernel) (by decide +kernel)⟩
set_option maxRecDepth 20000 in
theorem l_L_69 : Cond.methodLink RL 69 FX7_standing.1 ∈ q_T ∧ Cond.instanceMethod FX7_standing.1 ∈ q_T ∧ Cond.selects FX7_standing.1.cls FX7_standing.1 FX7_standing.1 ∈ q_T := ⟨q_mm 552 (by decide +kernel) (by decide +kernel), q_mm 553 (by decide +kernel) (by decide +kernel), q_mm 554 (by decide +kernel) (by decide +kernel)⟩
set_option maxRecDepth 20000 in
theorem l_L_73 : Cond.methodLink RL 73 FX7_of.1 ∈ q_T ∧ Cond.instanceMethod FX7_of.1 ∈ q_T ∧ Cond.selects FX7_of.1.cls FX7_of.1 FX7_of.1 ∈ q_T := ⟨q_mm 556 (by decide +kernel) (by decide +kernel), q_mm 557 (by decide +kernel) (by decide +kernel), q_mm 558 (by decide +kernel) (by decide +kernel)⟩
set_option maxRecDepth 20000 in
theorem l_L_77 : Cond.methodLink RL 77 FX7_sets.1 ∈ q_T ∧ Cond.instanceMethod FX7_sets.1 ∈ q_T ∧ Cond.selects FX7_sets.1.cls FX7_sets.1 FX7_sets.1 ∈ q_T := ⟨q_mm 561 (by decide +kernel) (by decide +kernel), q_mm 562 (by decide +kernel) (by decide +kernel), q_mm 563 (by decide +kernel) (by decide +kernel)⟩
set_option maxRecDepth 20000 in
theorem l_L_81 : Cond.methodLink RL 81 FX7_goes.1 ∈ q_T ∧ Cond.instanceMethod FX7_goes.1 ∈ q_T ∧ Cond.selects FX7_goes.1.cls FX7_goes.1 FX7_goes.1 ∈ q_T := ⟨q_mm 565 (by decide +kernel) (by decide +kernel), q_mm 566 (by decide +kernel) (by decide +kernel), q_mm 567 (by decide +kernel) (by decide +kernel)⟩
set_option maxRecDepth 20000 in
theorem l_X7_179 : Cond.methodLink RX7 179 FX2_lastCampOf.1 ∈ q_T ∧ Cond.instanceMethod FX2_lastCampOf.1 ∈ q_T ∧ Cond.selects FX2_lastCampOf.1.cls FX2_lastCampOf.1 FX2_lastCampOf.1 ∈ q_T := ⟨q_mm 569 (by decide +kernel) (by decide +kernel), q_mm 570 (by decide +kernel) (by decide +kernel), q_mm 571 (by decide +kernel) (by decide +kernel)⟩
set_option maxRecDepth 20000 in
theorem l_X7_182 : Cond.methodLink RX7 182 FX2_firstCampOf.1 ∈ q_T ∧ Cond.instanceMethod FX2_firstCampOf.1 ∈ q_T ∧ Cond.selects FX2_firstCampOf.1.cls FX2_firstCampOf.1 FX2_firstCampOf.1 ∈ q_T := ⟨q_mm 573 (by decide +kernel) (by decide +kernel), q_mm 574 (by decide +kernel) (by decide +kernel), q_mm 575 (by decide +kernel) (by decide +kernel)⟩
set_option maxRecDepth 20000 in
theorem l_L_85 : Cond.methodLink RL 85 FX7_sweep.1 ∈ q_T ∧ Cond.instanceMethod FX7_sweep.1 ∈ q_T ∧ Cond.selects FX7_sweep.1.cls FX7_sweep.1 FX7_sweep.1 ∈ q_T := ⟨q_mm 577 (by decide +kernel) (by decide +kernel), q_mm 578 (by decide +kernel) (by decide +kernel), q_mm 579 (by decide +kernel) (by decide +kernel)⟩
set_option maxRecDepth 20000 in
theorem l_X7_185 : Cond.methodLink RX7 185 FX3_brokenDown.1 ∈ q_T ∧ Cond.instanceMethod FX3_brokenDown.1 ∈ q_T ∧ Cond.selects FX3_brokenDown.1.cls FX3_brokenDown.1 FX3_brokenDown.1 ∈ q_T := ⟨q_mm 581 (by decide +kernel) (by decide +kernel), q_mm 582 (by decide +kernel) (by decide +kernel), q_mm 583 (by decide +kernel) (by decide +kernel)⟩
set_option maxRecDepth 20000 in
theorem l_X7_189 : Cond.methodLink RX7 189 FJ6_bitCount_0f7a4.1 ∈ q_T ∧ Cond.static FJ6_bitCount_0f7a4.1 ∈ q_T := ⟨q_mm 585 (by decide +kernel) (by decide +kernel), q_mm 586 (by decide +kernel) (by decide +kernel)⟩
set_option maxRecDepth 20000 in
theorem l_X7_196 : Cond.methodLink RX7 196 FX7_sweepersCome.1 ∈ q_T ∧ Cond.instanceMethod FX7_sweepersCome.1 ∈ q_T ∧ Cond.selects FX7_sweepersCome.1.cls FX7_sweepersCome.1 FX7_sweepersCome.1 ∈ q_T := ⟨q_mm 592 (by decide +kernel) (by decide +kernel), q_mm 594 (by decide +kernel) (by decide +kernel), q_mm 11 (by decide +kernel) (by decide +kernel)⟩
set_option maxRecDepth 20000 in
theorem l_X7_200 : Cond.methodLink RX7 200 FX3_lastStart.1 ∈ q_T ∧ Cond.instanceMethod FX3_lastStart.1 ∈ q_T ∧ Cond.selects FX3_lastStart.1.cls FX3_lastStart.1 FX3_lastStart.1 ∈ q_T := ⟨q_mm 596 (by decide +kernel) (by decide +kernel), q_mm 597 (by decide +kernel) (by decide +kernel), q_mm 598 (by decide +kernel) (by decide +kernel)⟩
set_option maxRecDepth 20000 in
theorem l_X7_203 : Cond.methodLink RX7 203 FX7_minutesFor.1 ∈ q_T ∧ Cond.static FX7_minutesFor.1 ∈ q_T := ⟨q_mm 600 (by decide +kernel) (by decide +kernel), q_mm 544 (by decide +kernel) (by decide +kernel)⟩
set_option maxRecDepth 20000 in
theorem l_L_12 : Cond.methodLink RL 12 FX8_init.1 ∈ q_T ∧ FX8_init.1.name = "<init>" ∧ Cond.instanceMethod FX8_init.1 ∈ q_T ∧ FX8_init.2.2.2 = none := ⟨q_mm 603 (by decide +kernel) (by decide +kernel), rfl, q_mm 604 (by decide +kernel) (by decide +kernel), rfl⟩
set_option maxRecDepth 20000 in
theorem l_L_17 : Cond.methodLink RL 17 FX8_camp.1 ∈ q_T ∧ Cond.instanceMethod FX8_camp.1 ∈ q_T ∧ Cond.selects FX8_camp.1.cls FX8_camp.1 FX8_camp.1 ∈ q_T := ⟨q_mm 698 (by decide +kernel) (by decide +kernel), q_mm 699 (by decide +kernel) (by decide +kernel), q_mm 700 (by decide +kernel) (by decide +kernel)⟩
set_option maxRecDepth 20000 in
theorem l_X8_78 : Cond.methodLink RX8 78 FX8_isCamp.1 ∈ q_T ∧ Cond.static FX8_isCamp.1 ∈ q_T := ⟨q_mm 702 (by decide +kernel) (by decide +kernel), q_mm 703 (by decide +kernel) (by decide +kernel)⟩
set_option maxRecDepth 20000 in
theorem l_X8_71 : Cond.methodLink RX8 71 FX8_isIn.1 ∈ q_T ∧ Cond.static FX8_isIn.1 ∈ q_T := ⟨q_mm 705 (by decide +kernel) (by decide +kernel), q_mm 706 (by decide +kernel) (by decide +kernel)⟩
set_option maxRecDepth 20000 in
theorem l_L_21 : Cond.methodLink RL 21 FX8_hour.1 ∈ q_T ∧ Cond.instanceMethod FX8_hour.1 ∈ q_T ∧ Cond.selects FX8_hour.1.cls FX8_hour.1 FX8_hour.1 ∈ q_T := ⟨q_mm 708 (by decide +kernel) (by decide +kernel), q_mm 709 (by decide +kernel) (by decide +kernel), q_mm 710 (by decide +kernel) (by decide +kernel)⟩
set_option maxRecDepth 20000 in
theorem l_X8_82 : Cond.methodLink RX8 82 FX8_isStage.1 ∈ q_T ∧ Cond.static FX8_isStage.1 ∈ q_T := ⟨q_mm 712 (by decide +kernel) (by decide +kernel), q_mm 713 (by decide +kernel) (by decide +kernel)⟩
set_option maxRecDepth 20000 in
theorem l_L_26 : Cond.methodLink RL 26 FX8_racer.1 ∈ q_T ∧ Cond.instanceMethod FX8_racer.1 ∈ q_T ∧ Cond.selects FX8_racer.1.cls FX8_racer.1 FX8_racer.1 ∈ q_T := ⟨q_mm 715 (by decide +kernel) (by decide +kernel), q_mm 716 (by decide +kernel) (by decide +kernel), q_mm 717 (by decide +kernel) (by decide +kernel)⟩
set_option maxRecDepth 20000 in
theorem l_L_31 : Cond.methodLink RL 31 FX8_breaks.1 ∈ q_T ∧ Cond.instanceMethod FX8_breaks.1 ∈ q_T ∧ Cond.selects FX8_breaks.1.cls FX8_breaks.1 FX8_breaks.1 ∈ q_T := ⟨q_mm 719 (by decide +kernel) (by decide +kernel), q_mm 720 (by decide +kernel) (by decide +kernel), q_mm 721 (by decide +kernel) (by decide +kernel)⟩
set_option maxRecDepth 20000 in
theorem l_X8_85 : Cond.methodLink RX8 85 FX8_isRacer.1 ∈ q_T ∧ Cond.instanceMethod FX8_isRacer.1 ∈ q_T ∧ Cond.selects FX8_isRacer.1.cls FX8_isRacer.1 FX8_isRacer.1 ∈ q_T := ⟨q_mm 723 (by decide +kernel) (by decide +kernel), q_mm 725 (by decide +kernel) (by decide +kernel), q_mm 12 (by decide +kernel) (by decide +kernel)⟩
set_option maxRecDepth 20000 in
theorem l_X8_88 : Cond.methodLink RX8 88 FX8_length.1 ∈ q_T ∧ Cond.instanceMethod FX8_length.1 ∈ q_T ∧ Cond.selects FX8_length.1.cls FX8_length.1 FX8_length.1 ∈ q_T := ⟨q_mm 727 (by decide +kernel) (by decide +kernel), q_mm 729 (by decide +kernel) (by decide +kernel), q_mm 13 (by decide +kernel) (by decide +kernel)⟩
set_option maxRecDepth 20000 in
theorem l_L_35 : Cond.methodLink RL 35 FX8_set.1 ∈ q_T ∧ Cond.instanceMethod FX8_set.1 ∈ q_T ∧ Cond.selects FX8_set.1.cls FX8_set.1 FX8_set.1 ∈ q_T := ⟨q_mm 731 (by decide +kernel) (by decide +kernel), q_mm 732 (by decide +kernel) (by decide +kernel), q_mm 733 (by decide +kernel) (by decide +kernel)⟩
set_option maxRecDepth 20000 in
theorem l_L_40 : Cond.methodLink RL 40 FX8_feed.1 ∈ q_T ∧ Cond.instanceMethod FX8_feed.1 ∈ q_T ∧ Cond.selects FX8_feed.1.cls FX8_feed.1 FX8_feed.1 ∈ q_T := ⟨q_mm 735 (by decide +kernel) (by decide +kernel), q_mm 736 (by decide +kernel) (by decide +kernel), q_mm 737 (by decide +kernel) (by decide +kernel)⟩
set_option maxRecDepth 20000 in
theorem l_L_45 : Cond.methodLink RL 45 FX8_end.1 ∈ q_T ∧ Cond.instanceMethod FX8_end.1 ∈ q_T ∧ Cond.selects FX8_end.1.cls FX8_end.1 FX8_end.1 ∈ q_T := ⟨q_mm 739 (by decide +kernel) (by decide +kernel), q_mm 740 (by decide +kernel) (by decide +kernel), q_mm 741 (by decide +kernel) (by decide +kernel)⟩
set_option maxRecDepth 20000 in
theorem l_L_50 : Cond.methodLink RL 50 FX8_book.1 ∈ q_T ∧ Cond.instanceMethod FX8_book.1 ∈ q_T ∧ Cond.selects FX8_book.1.cls FX8_book.1 FX8_book.1 ∈ q_T := ⟨q_mm 743 (by decide +kernel) (by decide +kernel), q_mm 744 (by decide +kernel) (by decide +kernel), q_mm 745 (by decide +kernel) (by decide +kernel)⟩
set_option maxRecDepth 20000 in
theorem l_X8_137 : Cond.methodLink RX8 137 FX8_next0.1 ∈ q_T ∧ Cond.instanceMethod FX8_next0.1 ∈ q_T ∧ Cond.selects FX8_next0.1.cls FX8_next0.1 FX8_next0.1 ∈ q_T := ⟨q_mm 747 (by decide +kernel) (by decide +kernel), q_mm 749 (by decide +kernel) (by decide +kernel), q_mm 14 (by decide +kernel) (by decide +kernel)⟩
set_option maxRecDepth 20000 in
theorem l_X8_106 : Cond.methodLink RX8 106 FX8_see.1 ∈ q_T ∧ Cond.instanceMethod FX8_see.1 ∈ q_T ∧ Cond.selects FX8_see.1.cls FX8_see.1 FX8_see.1 ∈ q_T := ⟨q_mm 751 (by decide +kernel) (by decide +kernel), q_mm 753 (by decide +kernel) (by decide +kernel), q_mm 15 (by decide +kernel) (by decide +kernel)⟩
set_option maxRecDepth 20000 in
theorem l_X8_115 : Cond.methodLink RX8 115 FX8_isLetter.1 ∈ q_T ∧ Cond.static FX8_isLetter.1 ∈ q_T := ⟨q_mm 755 (by decide +kernel) (by decide +kernel), q_mm 756 (by decide +kernel) (by decide +kernel)⟩
set_option maxRecDepth 20000 in
theorem l_X8_118 : Cond.methodLink RX8 118 FX8_word.1 ∈ q_T ∧ Cond.static FX8_word.1 ∈ q_T := ⟨q_mm 758 (by decide +kernel) (by decide +kernel), q_mm 759 (by decide +kernel) (by decide +kernel)⟩
set_option maxRecDepth 20000 in
theorem l_X8_122 : Cond.methodLink RX8 122 FX8_isDigit.1 ∈ q_T ∧ Cond.static FX8_isDigit.1 ∈ q_T := ⟨q_mm 765 (by decide +kernel) (by decide +kernel), q_mm 766 (by decide +kernel) (by decide +kernel)⟩
set_option maxRecDepth 20000 in
theorem l_X8_150 : Cond.methodLink RX8 150 FX8_aZone.1 ∈ q_T ∧ Cond.instanceMethod FX8_aZone.1 ∈ q_T ∧ Cond.selects FX8_aZone.1.cls FX8_aZone.1 FX8_aZone.1 ∈ q_T := ⟨q_mm 768 (by decide +kernel) (by decide +kernel), q_mm 770 (by decide +kernel) (by decide +kernel), q_mm 16 (by decide +kernel) (by decide +kernel)⟩
set_option maxRecDepth 20000 in
theorem l_X8_143 : Cond.methodLink RX8 143 FX8_need.1 ∈ q_T ∧ Cond.instanceMethod FX8_need.1 ∈ q_T ∧ Cond.selects FX8_need.1.cls FX8_need.1 FX8_need.1 ∈ q_T := ⟨q_mm 772 (by decide +kernel) (by decide +kernel), q_mm 774 (by decide +kernel) (by decide +kernel), q_mm 17 (by decide +kernel) (by decide +kernel)⟩
set_option maxRecDepth 20000 in
theorem l_X8_134 : Cond.methodLink RX8 134 FX8_bad.1 ∈ q_T ∧ Cond.instanceMethod FX8_bad.1 ∈ q_T ∧ Cond.selects FX8_bad.1.cls FX8_bad.1 FX8_bad.1 ∈ q_T := ⟨q_mm 776 (by decide +kernel) (by decide +kernel), q_mm 778 (by decide +kernel) (by decide +kernel), q_mm 18 (by decide +kernel) (by decide +kernel)⟩
set_option maxRecDepth 20000 in
theorem l_X8_146 : Cond.methodLink RX8 146 FX8_aNumber.1 ∈ q_T ∧ Cond.instanceMethod FX8_aNumber.1 ∈ q_T ∧ Cond.selects FX8_aNumber.1.cls FX8_aNumber.1 FX8_aNumber.1 ∈ q_T := ⟨q_mm 780 (by decide +kernel) (by decide +kernel), q_mm 782 (by decide +kernel) (by decide +kernel), q_mm 19 (by decide +kernel) (by decide +kernel)⟩
set_option maxRecDepth 20000 in
theorem l_X8_157 : Cond.methodLink RX8 157 FX8_all.1 ∈ q_T ∧ Cond.instanceMethod FX8_all.1 ∈ q_T ∧ Cond.selects FX8_all.1.cls FX8_all.1 FX8_all.1 ∈ q_T := ⟨q_mm 784 (by decide +kernel) (by decide +kernel), q_mm 786 (by decide +kernel) (by decide +kernel), q_mm 20 (by decide +kernel) (by decide +kernel)⟩
set_option maxRecDepth 20000 in
theorem l_L_54 : Cond.methodLink RL 54 FX8_fault.1 ∈ q_T ∧ Cond.instanceMethod FX8_fault.1 ∈ q_T ∧ Cond.selects FX8_fault.1.cls FX8_fault.1 FX8_fault.1 ∈ q_T := ⟨q_mm 788 (by decide +kernel) (by decide +kernel), q_mm 789 (by decide +kernel) (by decide +kernel), q_mm 790 (by decide +kernel) (by decide +kernel)⟩
set_option maxRecDepth 20000 in
theorem l_L_58 : Cond.methodLink RL 58 FX8_look.1 ∈ q_T ∧ Cond.instanceMethod FX8_look.1 ∈ q_T ∧ Cond.selects FX8_look.1.cls FX8_look.1 FX8_look.1 ∈ q_T := ⟨q_mm 792 (by decide +kernel) (by decide +kernel), q_mm 793 (by decide +kernel) (by decide +kernel), q_mm 794 (by decide +kernel) (by decide +kernel)⟩
set_option maxRecDepth 20000 in
theorem l_L_63 : Cond.methodLink RL 63 FX8_time.1 ∈ q_T ∧ Cond.instanceMethod FX8_time.1 ∈ q_T ∧ Cond.selects FX8_time.1.cls FX8_time.1 FX8_time.1 ∈ q_T := ⟨q_mm 796 (by decide +kernel) (by decide +kernel), q_mm 797 (by decide +kernel) (by decide +kernel), q_mm 798 (by decide +kernel) (by decide +kernel)⟩
set_option maxRecDepth 20000 in
theorem l_X8_167 : Cond.methodLink RX8 167 FX8_timeOf.1 ∈ q_T ∧ Cond.instanceMethod FX8_timeOf.1 ∈ q_T ∧ Cond.selects FX8_timeOf.1.cls FX8_timeOf.1 FX8_timeOf.1 ∈ q_T := ⟨q_mm 800 (by decide +kernel) (by decide +kernel), q_mm 802 (by decide +kernel) (by decide +kernel), q_mm 21 (by decide +kernel) (by decide +kernel)⟩
set_option maxRecDepth 20000 in
theorem l_X8_161 : Cond.methodLink RX8 161 FX8_lesser.1 ∈ q_T ∧ Cond.static FX8_lesser.1 ∈ q_T := ⟨q_mm 804 (by decide +kernel) (by decide +kernel), q_mm 805 (by decide +kernel) (by decide +kernel)⟩
set_option maxRecDepth 20000 in
theorem l_L_68 : Cond.methodLink RL 68 FX8_ran.1 ∈ q_T ∧ Cond.instanceMethod FX8_ran.1 ∈ q_T ∧ Cond.selects FX8_ran.1.cls FX8_ran.1 FX8_ran.1 ∈ q_T := ⟨q_mm 808 (by decide +kernel) (by decide +kernel), q_mm 809 (by decide +kernel) (by decide +kernel), q_mm 810 (by decide +kernel) (by decide +kernel)⟩
set_option maxRecDepth 20000 in
theorem l_X8_177 : Cond.methodLink RX8 177 FX8_runs.1 ∈ q_T ∧ Cond.instanceMethod FX8_runs.1 ∈ q_T ∧ Cond.selects FX8_runs.1.cls FX8_runs.1 FX8_runs.1 ∈ q_T := ⟨q_mm 812 (by decide +kernel) (by decide +kernel), q_mm 814 (by decide +kernel) (by decide +kernel), q_mm 22 (by decide +kernel) (by decide +kernel)⟩
set_option maxRecDepth 20000 in
theorem l_X8_170 : Cond.methodLink RX8 170 FX8_comes.1 ∈ q_T ∧ Cond.instanceMethod FX8_comes.1 ∈ q_T ∧ Cond.selects FX8_comes.1.cls FX8_comes.1 FX8_comes.1 ∈ q_T := ⟨q_mm 816 (by decide +kernel) (by decide +kernel), q_mm 818 (by decide +kernel) (by decide +kernel), q_mm 23 (by decide +kernel) (by decide +kernel)⟩
set_option maxRecDepth 20000 in
theorem l_X8_174 : Cond.methodLink RX8 174 FX8_isAhead.1 ∈ q_T ∧ Cond.instanceMethod FX8_isAhead.1 ∈ q_T ∧ Cond.selects FX8_isAhead.1.cls FX8_isAhead.1 FX8_isAhead.1 ∈ q_T := ⟨q_mm 820 (by decide +kernel) (by decide +kernel), q_mm 822 (by decide +kernel) (by decide +kernel), q_mm 24 (by decide +kernel) (by decide +kernel)⟩
set_option maxRecDepth 20000 in
theorem l_L_72 : Cond.methodLink RL 72 FX8_standing.1 ∈ q_T ∧ Cond.instanceMethod FX8_standing.1 ∈ q_T ∧ Cond.selects FX8_standing.1.cls FX8_standing.1 FX8_standing.1 ∈ q_T := ⟨q_mm 824 (by decide +kernel) (by decide +kernel), q_mm 825 (by decide +kernel) (by decide +kernel), q_mm 826 (by decide +kernel) (by decide +kernel)⟩
set_option maxRecDepth 20000 in
theorem l_L_80 : Cond.methodLink RL 80 FX8_sets.1 ∈ q_T ∧ Cond.instanceMethod FX8_sets.1 ∈ q_T ∧ Cond.selects FX8_sets.1.cls FX8_sets.1 FX8_sets.1 ∈ q_T := ⟨q_mm 828 (by decide +kernel) (by decide +kernel), q_mm 829 (by decide +kernel) (by decide +kernel), q_mm 830 (by decide +kernel) (by decide +kernel)⟩
set_option maxRecDepth 20000 in
theorem l_X8_198 : Cond.methodLink RX8 198 FX8_finds.1 ∈ q_T ∧ Cond.instanceMethod FX8_finds.1 ∈ q_T ∧ Cond.selects FX8_finds.1.cls FX8_finds.1 FX8_finds.1 ∈ q_T := ⟨q_mm 832 (by decide +kernel) (by decide +kernel), q_mm 834 (by decide +kernel) (by decide +kernel), q_mm 25 (by decide +kernel) (by decide +kernel)⟩
set_option maxRecDepth 20000 in
theorem l_X8_195 : Cond.methodLink RX8 195 FX8_kitchens.1 ∈ q_T ∧ Cond.instanceMethod FX8_kitchens.1 ∈ q_T ∧ Cond.selects FX8_kitchens.1.cls FX8_kitchens.1 FX8_kitchens.1 ∈ q_T := ⟨q_mm 836 (by decide +kernel) (by decide +kernel), q_mm 838 (by decide +kernel) (by decide +kernel), q_mm 26 (by decide +kernel) (by decide +kernel)⟩
set_option maxRecDepth 20000 in
theorem l_X8_189 : Cond.methodLink RX8 189 FX8_tries.1 ∈ q_T ∧ Cond.instanceMethod FX8_tries.1 ∈ q_T ∧ Cond.selects FX8_tries.1.cls FX8_tries.1 FX8_tries.1 ∈ q_T := ⟨q_mm 840 (by decide +kernel) (by decide +kernel), q_mm 842 (by decide +kernel) (by decide +kernel), q_mm 27 (by decide +kernel) (by decide +kernel)⟩
set_option maxRecDepth 20000 in
theorem l_X8_180 : Cond.methodLink RX8 180 FX8_isNeeded.1 ∈ q_T ∧ Cond.instanceMethod FX8_isNeeded.1 ∈ q_T ∧ Cond.selects FX8_isNeeded.1.cls FX8_isNeeded.1 FX8_isNeeded.1 ∈ q_T := ⟨q_mm 844 (by decide +kernel) (by decide +kernel), q_mm 846 (by decide +kernel) (by decide +kernel), q_mm 28 (by decide +kernel) (by decide +kernel)⟩
set_option maxRecDepth 20000 in
theorem l_X8_192 : Cond.methodLink RX8 192 FX8_canDo.1 ∈ q_T ∧ Cond.instanceMethod FX8_canDo.1 ∈ q_T ∧ Cond.selects FX8_canDo.1.cls FX8_canDo.1 FX8_canDo.1 ∈ q_T := ⟨q_mm 848 (by decide +kernel) (by decide +kernel), q_mm 850 (by decide +kernel) (by decide +kernel), q_mm 29 (by decide +kernel) (by decide +kernel)⟩
set_option maxRecDepth 20000 in
theorem l_X8_183 : Cond.methodLink RX8 183 FX8_lastOf.1 ∈ q_T ∧ Cond.instanceMethod FX8_lastOf.1 ∈ q_T ∧ Cond.selects FX8_lastOf.1.cls FX8_lastOf.1 FX8_lastOf.1 ∈ q_T := ⟨q_mm 852 (by decide +kernel) (by decide +kernel), q_mm 854 (by decide +kernel) (by decide +kernel), q_mm 30 (by decide +kernel) (by decide +kernel)⟩
set_option maxRecDepth 20000 in
theorem l_X8_186 : Cond.methodLink RX8 186 FX8_between.1 ∈ q_T ∧ Cond.instanceMethod FX8_between.1 ∈ q_T ∧ Cond.selects FX8_between.1.cls FX8_between.1 FX8_between.1 ∈ q_T := ⟨q_mm 856 (by decide +kernel) (by decide +kernel), q_mm 858 (by decide +kernel) (by decide +kernel), q_mm 31 (by decide +kernel) (by decide +kernel)⟩
set_option maxRecDepth 20000 in
theorem l_L_84 : Cond.methodLink RL 84 FX8_goes.1 ∈ q_T ∧ Cond.instanceMethod FX8_goes.1 ∈ q_T ∧ Cond.selects FX8_goes.1.cls FX8_goes.1 FX8_goes.1 ∈ q_T := ⟨q_mm 860 (by decide +kernel) (by decide +kernel), q_mm 861 (by decide +kernel) (by decide +kernel), q_mm 862 (by decide +kernel) (by decide +kernel)⟩
set_option maxRecDepth 20000 in
theorem l_L_76 : Cond.methodLink RL 76 FX8_of.1 ∈ q_T ∧ Cond.instanceMethod FX8_of.1 ∈ q_T ∧ Cond.selects FX8_of.1.cls FX8_of.1 FX8_of.1 ∈ q_T := ⟨q_mm 864 (by decide +kernel) (by decide +kernel), q_mm 865 (by decide +kernel) (by decide +kernel), q_mm 866 (by decide +kernel) (by decide +kernel)⟩
set_option maxRecDepth 20000 in
theorem l_L_88 : Cond.methodLink RL 88 FX8_sweep.1 ∈ q_T ∧ Cond.instanceMethod FX8_sweep.1 ∈ q_T ∧ Cond.selects FX8_sweep.1.cls FX8_sweep.1 FX8_sweep.1 ∈ q_T := ⟨q_mm 868 (by decide +kernel) (by decide +kernel), q_mm 869 (by decide +kernel) (by decide +kernel), q_mm 870 (by decide +kernel) (by decide +kernel)⟩
set_option maxRecDepth 20000 in
theorem o_X7_3 : Cond.methodLink RX7 3 Lib.objectInit ∈ q_T := q_mm 53 (by decide +kernel) (by decide +kernel)
set_option maxRecDepth 20000 in
theorem o_X1_3 : Cond.methodLink RX1 3 Lib.objectInit ∈ q_T := q_mm 61 (by decide +kernel) (by decide +kernel)
set_option maxRecDepth 20000 in
theorem o_X4_3 : Cond.methodLink RX4 3 Lib.objectInit ∈ q_T := q_mm 78 (by decide +kernel) (by decide +kernel)
set_option maxRecDepth 20000 in
theorem o_X6_3 : Cond.methodLink RX6 3 Lib.objectInit ∈ q_T := q_mm 103 (by decide +kernel) (by decide +kernel)
set_option maxRecDepth 20000 in
theorem o_X0_3 : Cond.methodLink RX0 3 Lib.objectInit ∈ q_T := q_mm 119 (by decide +kernel) (by decide +kernel)
set_option maxRecDepth 20000 in
theorem o_X3_3 : Cond.methodLink RX3 3 Lib.objectInit ∈ q_T := q_mm 146 (by decide +kernel) (by decide +kernel)
set_option maxRecDepth 20000 in
theorem o_X2_3 : Cond.methodLink RX2 3 Lib.objectInit ∈ q_T := q_mm 190 (by decide +kernel) (by decide +kernel)
set_option maxRecDepth 20000 in
theorem o_X5_3 : Cond.methodLink RX5 3 Lib.objectInit ∈ q_T := q_mm 225 (by decide +kernel) (by decide +kernel)
set_option maxRecDepth 20000 in
theorem o_X8_1 : Cond.methodLink RX8 1 Lib.objectInit ∈ q_T := q_mm 606 (by decide +kernel) (by decide +kernel)
set_option maxRecDepth 20000 in
theorem o_im : Cond.instanceMethod Lib.objectInit ∈ q_T := q_mm 54 (by decide +kernel) (by decide +kernel)
set_option maxRecDepth 20000 in
theorem o_cd : Cond.code Lib.objectInit ⟨#[0xb1]⟩ 1 none ∈ q_T := q_mm 55 (by decide +kernel) (by decide +kernel)
set_option maxRecDepth 20000 in
theorem k_L_7 : q_cls RL 7 7 10 := ⟨RX7, TX7, tyX7, rfl, wX7, tyX7_ok, q_mm 48 (by decide +kernel) (by decide +kernel), q_mm 49 (by decide +kernel) (by decide +kernel), q_mm 33 (by decide +kernel) (by decide +kernel), by decide +kernel⟩
set_option maxRecDepth 20000 in
theorem k_X7_9 : q_cls RX7 9 1 2 := ⟨RX1, TX1, tyX1, rfl, wX1, tyX1_ok, q_mm 56 (by decide +kernel) (by decide +kernel), q_mm 57 (by decide +kernel) (by decide +kernel), q_mm 34 (by decide +kernel) (by decide +kernel), by decide +kernel⟩
set_option maxRecDepth 20000 in
theorem k_X7_16 : q_cls RX7 16 4 4 := ⟨RX4, TX4, tyX4, rfl, wX4, tyX4_ok, q_mm 73 (by decide +kernel) (by decide +kernel), q_mm 74 (by decide +kernel) (by decide +kernel), q_mm 35 (by decide +kernel) (by decide +kernel), by decide +kernel⟩
set_option maxRecDepth 20000 in
theorem k_X7_23 : q_cls RX7 23 6 2 := ⟨RX6, TX6, tyX6, rfl, wX6, tyX6_ok, q_mm 98 (by decide +kernel) (by decide +kernel), q_mm 99 (by decide +kernel) (by decide +kernel), q_mm 36 (by decide +kernel) (by decide +kernel), by decide +kernel⟩
set_option maxRecDepth 20000 in
theorem k_X7_30 : q_cls RX7 30 0 6 := ⟨RX0, TX0, tyX0, rfl, wX0, tyX0_ok, q_mm 114 (by decide +kernel) (by decide +kernel), q_mm 115 (by decide +kernel) (by decide +kernel), q_mm 37 (by decide +kernel) (by decide +kernel), by decide +kernel⟩
set_option maxRecDepth 20000 in
theorem k_X7_37 : q_cls RX7 37 3 9 := ⟨RX3, TX3, tyX3, rfl, wX3, tyX3_ok, q_mm 141 (by decide +kernel) (by decide +kernel), q_mm 142 (by decide +kernel) (by decide +kernel), q_mm 38 (by decide +kernel) (by decide +kernel), by decide +kernel⟩
set_option maxRecDepth 20000 in
theorem k_X3_9 : Cond.classLink RX3 9 "[[I" ∈ q_T := q_mm 147 (by decide +kernel) (by decide +kernel)
set_option maxRecDepth 20000 in
theorem k_X7_44 : q_cls RX7 44 2 8 := ⟨RX2, TX2, tyX2, rfl, wX2, tyX2_ok, q_mm 185 (by decide +kernel) (by decide +kernel), q_mm 186 (by decide +kernel) (by decide +kernel), q_mm 39 (by decide +kernel) (by decide +kernel), by decide +kernel⟩
set_option maxRecDepth 20000 in
theorem k_X7_55 : q_cls RX7 55 5 5 := ⟨RX5, TX5, tyX5, rfl, wX5, tyX5_ok, q_mm 220 (by decide +kernel) (by decide +kernel), q_mm 221 (by decide +kernel) (by decide +kernel), q_mm 40 (by decide +kernel) (by decide +kernel), by decide +kernel⟩
set_option maxRecDepth 20000 in
theorem k_X5_15 : Cond.classLink RX5 15 "[[I" ∈ q_T := q_mm 226 (by decide +kernel) (by decide +kernel)
set_option maxRecDepth 20000 in
theorem k_L_10 : q_cls RL 10 8 30 := ⟨RX8, TX8, tyX8, rfl, wX8, tyX8_ok, q_mm 601 (by decide +kernel) (by decide +kernel), q_mm 602 (by decide +kernel) (by decide +kernel), q_mm 41 (by decide +kernel) (by decide +kernel), by decide +kernel⟩
theorem k_int : Cond.arrayClass .int ∈ q_T := q_mm 72 (by decide +kernel) (by decide +kernel)
theorem k_byte : Cond.arrayClass .byte ∈ q_T := q_mm 113 (by decide +kernel) (by decide +kernel)
set_option maxRecDepth 20000 in
theorem n_X3_110 : Cond.constantLong RX3 110 60 ∈ q_T := q_mm 494 (by decide +kernel) (by decide +kernel)
set_option maxRecDepth 20000 in
theorem n_X7_214 : Cond.constantLong RX7 214 60 ∈ q_T := q_mm 546 (by decide +kernel) (by decide +kernel)
set_option maxRecDepth 20000 in
theorem n_X7_170 : Cond.constantLong RX7 170 1000 ∈ q_T := q_mm 560 (by decide +kernel) (by decide +kernel)
set_option maxRecDepth 20000 in
theorem n_J6_265 : Cond.constant RJ6 265 1431655765 ∈ q_T := q_mm 588 (by decide +kernel) (by decide +kernel)
set_option maxRecDepth 20000 in
theorem n_J6_266 : Cond.constant RJ6 266 858993459 ∈ q_T := q_mm 589 (by decide +kernel) (by decide +kernel)
set_option maxRecDepth 20000 in
theorem n_J6_267 : Cond.constant RJ6 267 252645135 ∈ q_T := q_mm 590 (by decide +kernel) (by decide +kernel)
set_option maxRecDepth 20000 in
theorem n_X7_194 : Cond.constantLong RX7 194 4 ∈ q_T := q_mm 591 (by decide +kernel) (by decide +kernel)
set_option maxRecDepth 20000 in
theorem n_X8_95 : Cond.constantLong RX8 95 2054123109 ∈ q_T := q_mm 761 (by decide +kernel) (by decide +kernel)
set_option maxRecDepth 20000 in
theorem n_X8_97 : Cond.constantLong RX8 97 1718775661 ∈ q_T := q_mm 762 (by decide +kernel) (by decide +kernel)
set_option maxRecDepth 20000 in
theorem n_X8_99 : Cond.constantLong RX8 99 29807 ∈ q_T := q_mm 763 (by decide +kernel) (by decide +kernel)
set_option maxRecDepth 20000 in
theorem n_X8_101 : Cond.constantLong RX8 101 24948 ∈ q_T := q_mm 764 (by decide +kernel) (by decide +kernel)
set_option maxRecDepth 20000 in
theorem n_X8_165 : Cond.constantLong RX8 165 60 ∈ q_T := q_mm 807 (by decide +kernel) (by decide +kernel)
set_option maxRecDepth 20000 in
theorem s_X7_103 : Cond.fieldLink RX7 103 "DesertTown" "LEAST_SETTING" "[I" ∈ q_T := q_mm 321 (by decide +kernel) (by decide +kernel)
set_option maxRecDepth 20000 in
theorem s_X7_106 : Cond.fieldLink RX7 106 "DesertTown" "MOST_SETTING" "[I" ∈ q_T := q_mm 323 (by decide +kernel) (by decide +kernel)
set_option maxRecDepth 20000 in
theorem a_X3_86 : Cond.methodLink RX3 86 Lib.Math.max.name ∈ q_T := q_mm 527 (by decide +kernel) (by decide +kernel)
set_option maxRecDepth 20000 in
theorem a_max_s : Cond.static Lib.Math.max.name ∈ q_T := q_mm 528 (by decide +kernel) (by decide +kernel)
set_option maxRecDepth 20000 in
theorem a_max_c : Cond.code Lib.Math.max.name Lib.Math.max.code 2 (some .int) ∈ q_T := q_mm 529 (by decide +kernel) (by decide +kernel)
set_option maxRecDepth 20000 in
theorem a_X3_80 : Cond.methodLink RX3 80 Lib.Math.min.name ∈ q_T := q_mm 491 (by decide +kernel) (by decide +kernel)
set_option maxRecDepth 20000 in
theorem a_min_s : Cond.static Lib.Math.min.name ∈ q_T := q_mm 492 (by decide +kernel) (by decide +kernel)
set_option maxRecDepth 20000 in
theorem a_min_c : Cond.code Lib.Math.min.name Lib.Math.min.code 2 (some .int) ∈ q_T := q_mm 493 (by decide +kernel) (by decide +kernel)
set_option maxRecDepth 20000 in
theorem a_ini : Cond.initialized "java/lang/Math" ∈ q_T := q_mm 46 (by decide +kernel) (by decide +kernel)
