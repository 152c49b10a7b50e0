/-! printed by gen_links.py: the links, by the places of their words -/
def gflt : List (Nat × Nat × Nat × Nat) := [(3009, 3, 0, 1), (5189, 3, 0, 2), (1096, 3, 0, 2), (3021, 3, 1, 0), (5181, 3, 1, 0), (1088, 3, 1, 0), (3025, 3, 2, 0), (1093, 3, 2, 0), (9, 0, 0, 1), (5132, 0, 0, 2), (6082, 0, 0, 2), (1070, 0, 0, 2), (15, 0, 1, 1), (4070, 0, 1, 2), (6090, 0, 1, 2), (1073, 0, 1, 2), (5199, 0, 1, 2), (19, 0, 2, 0), (4042, 0, 2, 0), (6087, 0, 2, 0), (1067, 0, 2, 0), (2011, 2, 0, 1), (4025, 2, 0, 2), (5128, 2, 0, 2), (6078, 2, 0, 2), (2032, 2, 1, 0), (5052, 2, 1, 0), (4055, 2, 1, 0), (6066, 2, 1, 0), (2018, 2, 2, 0), (5159, 2, 2, 0), (6141, 2, 2, 0), (2022, 2, 3, 0), (5091, 2, 3, 0), (2026, 2, 4, 0), (5168, 2, 4, 0), (2029, 2, 5, 0), (5165, 2, 5, 0), (2035, 2, 6, 0), (5175, 2, 6, 0), (1034, 1, 0, 1), (1009, 1, 1, 1), (1015, 1, 2, 1), (1021, 1, 3, 1), (1025, 1, 4, 1), (1028, 1, 5, 1), (1031, 1, 6, 1), (1038, 1, 7, 0), (1042, 1, 8, 0), (6118, 1, 8, 0), (1045, 1, 9, 0), (5121, 1, 9, 0), (5040, 4, 0, 1), (6114, 4, 0, 2), (5075, 4, 1, 0), (6108, 4, 1, 0), (5078, 4, 2, 0), (6111, 4, 2, 0), (5062, 4, 3, 0), (6123, 4, 3, 0), (5081, 4, 4, 0), (6163, 4, 4, 0), (5031, 4, 5, 1), (5009, 4, 6, 1), (5015, 4, 7, 1), (5019, 4, 8, 1), (5022, 4, 9, 1), (5025, 4, 10, 1), (5028, 4, 11, 1), (5085, 4, 12, 0), (5048, 4, 13, 0), (5088, 4, 14, 0), (5094, 4, 15, 0), (5097, 4, 16, 0), (6011, 5, 0, 1), (6018, 5, 1, 1), (6023, 5, 2, 1), (6032, 5, 3, 1), (6126, 5, 4, 0), (6105, 5, 5, 0), (6144, 5, 6, 0), (6147, 5, 7, 0), (6150, 5, 8, 0), (6160, 5, 9, 0), (6101, 5, 10, 0), (7087, 6, 0, 0), (7007, 6, 1, 1), (7013, 6, 2, 1), (7016, 6, 3, 1), (7020, 6, 4, 1), (7023, 6, 5, 1), (7026, 6, 6, 1), (7029, 6, 7, 1), (7032, 6, 8, 1), (7035, 6, 9, 1), (7038, 6, 10, 1), (7041, 6, 11, 1), (7124, 6, 12, 0), (7044, 6, 13, 1), (7047, 6, 14, 1), (7050, 6, 15, 1), (7053, 6, 16, 1), (7056, 6, 17, 1), (7131, 6, 18, 0), (7059, 6, 19, 1), (7062, 6, 20, 1), (7166, 6, 21, 0), (7180, 6, 22, 0), (7194, 6, 23, 0), (7149, 6, 24, 0), (7145, 6, 25, 0), (7066, 6, 26, 1), (7069, 6, 27, 1), (7072, 6, 28, 1), (7075, 6, 29, 1), (7078, 6, 30, 1), (7081, 6, 31, 1), (7152, 6, 32, 0), (7219, 6, 33, 0), (7200, 6, 34, 0), (7203, 6, 35, 0), (7210, 6, 36, 0), (7213, 6, 37, 0), (7206, 6, 38, 0), (7222, 6, 39, 0), (7084, 6, 40, 1)]
def gfok (q : Nat × Nat × Nat × Nat) : Prop := ∃ (C : String) (T : u_T) (N : Nat), vwCl[q.2.1]? = some (C, T, N) ∧ q.2.2.1 < N ∧ Cond.fieldLink (gown (q.1 / 1000)) (q.1 % 1000) (T q.2.2.1).1 (T q.2.2.1).2.1 (T q.2.2.1).2.2.1 ∈ gT ∧ (q.2.2.2 = 0 → (T q.2.2.1).2.2.2 = false) ∧ (q.2.2.2 = 1 → (T q.2.2.1).2.2.2 = true ∧ (T q.2.2.1).1 = gown (q.1 / 1000))
theorem gf_3009 : gfok (3009, 3, 0, 1) := ⟨RX3, TX3, 3, rfl, by decide, gT_of 78 (by decide +kernel) (by decide +kernel), fun h => absurd h (by decide), fun _ => ⟨rfl, rfl⟩⟩
theorem gf_5189 : gfok (5189, 3, 0, 2) := ⟨RX3, TX3, 3, rfl, by decide, gT_of 79 (by decide +kernel) (by decide +kernel), fun h => absurd h (by decide), fun h => absurd h (by decide)⟩
theorem gf_1096 : gfok (1096, 3, 0, 2) := ⟨RX3, TX3, 3, rfl, by decide, gT_of 80 (by decide +kernel) (by decide +kernel), fun h => absurd h (by decide), fun h => absurd h (by decide)⟩
theorem gf_3021 : gfok (3021, 3, 1, 0) := ⟨RX3, TX3, 3, rfl, by decide, gT_of 81 (by decide +kernel) (by decide +kernel), fun _ => rfl, fun h => absurd h (by decide)⟩
theorem gf_5181 : gfok (5181, 3, 1, 0) := ⟨RX3, TX3, 3, rfl, by decide, gT_of 82 (by decide +kernel) (by decide +kernel), fun _ => rfl, fun h => absurd h (by decide)⟩
theorem gf_1088 : gfok (1088, 3, 1, 0) := ⟨RX3, TX3, 3, rfl, by decide, gT_of 83 (by decide +kernel) (by decide +kernel), fun _ => rfl, fun h => absurd h (by decide)⟩
theorem gf_3025 : gfok (3025, 3, 2, 0) := ⟨RX3, TX3, 3, rfl, by decide, gT_of 84 (by decide +kernel) (by decide +kernel), fun _ => rfl, fun h => absurd h (by decide)⟩
theorem gf_1093 : gfok (1093, 3, 2, 0) := ⟨RX3, TX3, 3, rfl, by decide, gT_of 85 (by decide +kernel) (by decide +kernel), fun _ => rfl, fun h => absurd h (by decide)⟩
theorem gf_9 : gfok (9, 0, 0, 1) := ⟨RX0, TX0, 3, rfl, by decide, gT_of 108 (by decide +kernel) (by decide +kernel), fun h => absurd h (by decide), fun _ => ⟨rfl, rfl⟩⟩
theorem gf_5132 : gfok (5132, 0, 0, 2) := ⟨RX0, TX0, 3, rfl, by decide, gT_of 109 (by decide +kernel) (by decide +kernel), fun h => absurd h (by decide), fun h => absurd h (by decide)⟩
theorem gf_6082 : gfok (6082, 0, 0, 2) := ⟨RX0, TX0, 3, rfl, by decide, gT_of 110 (by decide +kernel) (by decide +kernel), fun h => absurd h (by decide), fun h => absurd h (by decide)⟩
theorem gf_1070 : gfok (1070, 0, 0, 2) := ⟨RX0, TX0, 3, rfl, by decide, gT_of 111 (by decide +kernel) (by decide +kernel), fun h => absurd h (by decide), fun h => absurd h (by decide)⟩
theorem gf_15 : gfok (15, 0, 1, 1) := ⟨RX0, TX0, 3, rfl, by decide, gT_of 112 (by decide +kernel) (by decide +kernel), fun h => absurd h (by decide), fun _ => ⟨rfl, rfl⟩⟩
theorem gf_4070 : gfok (4070, 0, 1, 2) := ⟨RX0, TX0, 3, rfl, by decide, gT_of 113 (by decide +kernel) (by decide +kernel), fun h => absurd h (by decide), fun h => absurd h (by decide)⟩
theorem gf_6090 : gfok (6090, 0, 1, 2) := ⟨RX0, TX0, 3, rfl, by decide, gT_of 114 (by decide +kernel) (by decide +kernel), fun h => absurd h (by decide), fun h => absurd h (by decide)⟩
theorem gf_1073 : gfok (1073, 0, 1, 2) := ⟨RX0, TX0, 3, rfl, by decide, gT_of 115 (by decide +kernel) (by decide +kernel), fun h => absurd h (by decide), fun h => absurd h (by decide)⟩
theorem gf_5199 : gfok (5199, 0, 1, 2) := ⟨RX0, TX0, 3, rfl, by decide, gT_of 116 (by decide +kernel) (by decide +kernel), fun h => absurd h (by decide), fun h => absurd h (by decide)⟩
theorem gf_19 : gfok (19, 0, 2, 0) := ⟨RX0, TX0, 3, rfl, by decide, gT_of 117 (by decide +kernel) (by decide +kernel), fun _ => rfl, fun h => absurd h (by decide)⟩
theorem gf_4042 : gfok (4042, 0, 2, 0) := ⟨RX0, TX0, 3, rfl, by decide, gT_of 118 (by decide +kernel) (by decide +kernel), fun _ => rfl, fun h => absurd h (by decide)⟩
theorem gf_6087 : gfok (6087, 0, 2, 0) := ⟨RX0, TX0, 3, rfl, by decide, gT_of 119 (by decide +kernel) (by decide +kernel), fun _ => rfl, fun h => absurd h (by decide)⟩
theorem gf_1067 : gfok (1067, 0, 2, 0) := ⟨RX0, TX0, 3, rfl, by decide, gT_of 120 (by decide +kernel) (by decide +kernel), fun _ => rfl, fun h => absurd h (by decide)⟩
theorem gf_2011 : gfok (2011, 2, 0, 1) := ⟨RX2, TX2, 7, rfl, by decide, gT_of 129 (by decide +kernel) (by decide +kernel), fun h => absurd h (by decide), fun _ => ⟨rfl, rfl⟩⟩
theorem gf_4025 : gfok (4025, 2, 0, 2) := ⟨RX2, TX2, 7, rfl, by decide, gT_of 130 (by decide +kernel) (by decide +kernel), fun h => absurd h (by decide), fun h => absurd h (by decide)⟩
theorem gf_5128 : gfok (5128, 2, 0, 2) := ⟨RX2, TX2, 7, rfl, by decide, gT_of 131 (by decide +kernel) (by decide +kernel), fun h => absurd h (by decide), fun h => absurd h (by decide)⟩
theorem gf_6078 : gfok (6078, 2, 0, 2) := ⟨RX2, TX2, 7, rfl, by decide, gT_of 132 (by decide +kernel) (by decide +kernel), fun h => absurd h (by decide), fun h => absurd h (by decide)⟩
theorem gf_2032 : gfok (2032, 2, 1, 0) := ⟨RX2, TX2, 7, rfl, by decide, gT_of 133 (by decide +kernel) (by decide +kernel), fun _ => rfl, fun h => absurd h (by decide)⟩
theorem gf_5052 : gfok (5052, 2, 1, 0) := ⟨RX2, TX2, 7, rfl, by decide, gT_of 134 (by decide +kernel) (by decide +kernel), fun _ => rfl, fun h => absurd h (by decide)⟩
theorem gf_4055 : gfok (4055, 2, 1, 0) := ⟨RX2, TX2, 7, rfl, by decide, gT_of 135 (by decide +kernel) (by decide +kernel), fun _ => rfl, fun h => absurd h (by decide)⟩
theorem gf_6066 : gfok (6066, 2, 1, 0) := ⟨RX2, TX2, 7, rfl, by decide, gT_of 136 (by decide +kernel) (by decide +kernel), fun _ => rfl, fun h => absurd h (by decide)⟩
theorem gf_2018 : gfok (2018, 2, 2, 0) := ⟨RX2, TX2, 7, rfl, by decide, gT_of 137 (by decide +kernel) (by decide +kernel), fun _ => rfl, fun h => absurd h (by decide)⟩
theorem gf_5159 : gfok (5159, 2, 2, 0) := ⟨RX2, TX2, 7, rfl, by decide, gT_of 138 (by decide +kernel) (by decide +kernel), fun _ => rfl, fun h => absurd h (by decide)⟩
theorem gf_6141 : gfok (6141, 2, 2, 0) := ⟨RX2, TX2, 7, rfl, by decide, gT_of 139 (by decide +kernel) (by decide +kernel), fun _ => rfl, fun h => absurd h (by decide)⟩
theorem gf_2022 : gfok (2022, 2, 3, 0) := ⟨RX2, TX2, 7, rfl, by decide, gT_of 140 (by decide +kernel) (by decide +kernel), fun _ => rfl, fun h => absurd h (by decide)⟩
theorem gf_5091 : gfok (5091, 2, 3, 0) := ⟨RX2, TX2, 7, rfl, by decide, gT_of 141 (by decide +kernel) (by decide +kernel), fun _ => rfl, fun h => absurd h (by decide)⟩
theorem gf_2026 : gfok (2026, 2, 4, 0) := ⟨RX2, TX2, 7, rfl, by decide, gT_of 142 (by decide +kernel) (by decide +kernel), fun _ => rfl, fun h => absurd h (by decide)⟩
theorem gf_5168 : gfok (5168, 2, 4, 0) := ⟨RX2, TX2, 7, rfl, by decide, gT_of 143 (by decide +kernel) (by decide +kernel), fun _ => rfl, fun h => absurd h (by decide)⟩
theorem gf_2029 : gfok (2029, 2, 5, 0) := ⟨RX2, TX2, 7, rfl, by decide, gT_of 144 (by decide +kernel) (by decide +kernel), fun _ => rfl, fun h => absurd h (by decide)⟩
theorem gf_5165 : gfok (5165, 2, 5, 0) := ⟨RX2, TX2, 7, rfl, by decide, gT_of 145 (by decide +kernel) (by decide +kernel), fun _ => rfl, fun h => absurd h (by decide)⟩
theorem gf_2035 : gfok (2035, 2, 6, 0) := ⟨RX2, TX2, 7, rfl, by decide, gT_of 146 (by decide +kernel) (by decide +kernel), fun _ => rfl, fun h => absurd h (by decide)⟩
theorem gf_5175 : gfok (5175, 2, 6, 0) := ⟨RX2, TX2, 7, rfl, by decide, gT_of 147 (by decide +kernel) (by decide +kernel), fun _ => rfl, fun h => absurd h (by decide)⟩
theorem gf_1034 : gfok (1034, 1, 0, 1) := ⟨RX1, TX1, 10, rfl, by decide, gT_of 176 (by decide +kernel) (by decide +kernel), fun h => absurd h (by decide), fun _ => ⟨rfl, rfl⟩⟩
theorem gf_1009 : gfok (1009, 1, 1, 1) := ⟨RX1, TX1, 10, rfl, by decide, gT_of 177 (by decide +kernel) (by decide +kernel), fun h => absurd h (by decide), fun _ => ⟨rfl, rfl⟩⟩
theorem gf_1015 : gfok (1015, 1, 2, 1) := ⟨RX1, TX1, 10, rfl, by decide, gT_of 178 (by decide +kernel) (by decide +kernel), fun h => absurd h (by decide), fun _ => ⟨rfl, rfl⟩⟩
theorem gf_1021 : gfok (1021, 1, 3, 1) := ⟨RX1, TX1, 10, rfl, by decide, gT_of 179 (by decide +kernel) (by decide +kernel), fun h => absurd h (by decide), fun _ => ⟨rfl, rfl⟩⟩
theorem gf_1025 : gfok (1025, 1, 4, 1) := ⟨RX1, TX1, 10, rfl, by decide, gT_of 180 (by decide +kernel) (by decide +kernel), fun h => absurd h (by decide), fun _ => ⟨rfl, rfl⟩⟩
theorem gf_1028 : gfok (1028, 1, 5, 1) := ⟨RX1, TX1, 10, rfl, by decide, gT_of 181 (by decide +kernel) (by decide +kernel), fun h => absurd h (by decide), fun _ => ⟨rfl, rfl⟩⟩
theorem gf_1031 : gfok (1031, 1, 6, 1) := ⟨RX1, TX1, 10, rfl, by decide, gT_of 182 (by decide +kernel) (by decide +kernel), fun h => absurd h (by decide), fun _ => ⟨rfl, rfl⟩⟩
theorem gf_1038 : gfok (1038, 1, 7, 0) := ⟨RX1, TX1, 10, rfl, by decide, gT_of 183 (by decide +kernel) (by decide +kernel), fun _ => rfl, fun h => absurd h (by decide)⟩
theorem gf_1042 : gfok (1042, 1, 8, 0) := ⟨RX1, TX1, 10, rfl, by decide, gT_of 184 (by decide +kernel) (by decide +kernel), fun _ => rfl, fun h => absurd h (by decide)⟩
theorem gf_6118 : gfok (6118, 1, 8, 0) := ⟨RX1, TX1, 10, rfl, by decide, gT_of 185 (by decide +kernel) (by decide +kernel), fun _ => rfl, fun h => absurd h (by decide)⟩
theorem gf_1045 : gfok (1045, 1, 9, 0) := ⟨RX1, TX1, 10, rfl, by decide, gT_of 186 (by decide +kernel) (by decide +kernel), fun _ => rfl, fun h => absurd h (by decide)⟩
theorem gf_5121 : gfok (5121, 1, 9, 0) := ⟨RX1, TX1, 10, rfl, by decide, gT_of 187 (by decide +kernel) (by decide +kernel), fun _ => rfl, fun h => absurd h (by decide)⟩
theorem gf_5040 : gfok (5040, 4, 0, 1) := ⟨RX5, TX5, 17, rfl, by decide, gT_of 210 (by decide +kernel) (by decide +kernel), fun h => absurd h (by decide), fun _ => ⟨rfl, rfl⟩⟩
theorem gf_6114 : gfok (6114, 4, 0, 2) := ⟨RX5, TX5, 17, rfl, by decide, gT_of 211 (by decide +kernel) (by decide +kernel), fun h => absurd h (by decide), fun h => absurd h (by decide)⟩
theorem gf_5075 : gfok (5075, 4, 1, 0) := ⟨RX5, TX5, 17, rfl, by decide, gT_of 212 (by decide +kernel) (by decide +kernel), fun _ => rfl, fun h => absurd h (by decide)⟩
theorem gf_6108 : gfok (6108, 4, 1, 0) := ⟨RX5, TX5, 17, rfl, by decide, gT_of 213 (by decide +kernel) (by decide +kernel), fun _ => rfl, fun h => absurd h (by decide)⟩
theorem gf_5078 : gfok (5078, 4, 2, 0) := ⟨RX5, TX5, 17, rfl, by decide, gT_of 214 (by decide +kernel) (by decide +kernel), fun _ => rfl, fun h => absurd h (by decide)⟩
theorem gf_6111 : gfok (6111, 4, 2, 0) := ⟨RX5, TX5, 17, rfl, by decide, gT_of 215 (by decide +kernel) (by decide +kernel), fun _ => rfl, fun h => absurd h (by decide)⟩
theorem gf_5062 : gfok (5062, 4, 3, 0) := ⟨RX5, TX5, 17, rfl, by decide, gT_of 216 (by decide +kernel) (by decide +kernel), fun _ => rfl, fun h => absurd h (by decide)⟩
theorem gf_6123 : gfok (6123, 4, 3, 0) := ⟨RX5, TX5, 17, rfl, by decide, gT_of 217 (by decide +kernel) (by decide +kernel), fun _ => rfl, fun h => absurd h (by decide)⟩
theorem gf_5081 : gfok (5081, 4, 4, 0) := ⟨RX5, TX5, 17, rfl, by decide, gT_of 218 (by decide +kernel) (by decide +kernel), fun _ => rfl, fun h => absurd h (by decide)⟩
theorem gf_6163 : gfok (6163, 4, 4, 0) := ⟨RX5, TX5, 17, rfl, by decide, gT_of 219 (by decide +kernel) (by decide +kernel), fun _ => rfl, fun h => absurd h (by decide)⟩
theorem gf_5031 : gfok (5031, 4, 5, 1) := ⟨RX5, TX5, 17, rfl, by decide, gT_of 220 (by decide +kernel) (by decide +kernel), fun h => absurd h (by decide), fun _ => ⟨rfl, rfl⟩⟩
theorem gf_5009 : gfok (5009, 4, 6, 1) := ⟨RX5, TX5, 17, rfl, by decide, gT_of 221 (by decide +kernel) (by decide +kernel), fun h => absurd h (by decide), fun _ => ⟨rfl, rfl⟩⟩
theorem gf_5015 : gfok (5015, 4, 7, 1) := ⟨RX5, TX5, 17, rfl, by decide, gT_of 222 (by decide +kernel) (by decide +kernel), fun h => absurd h (by decide), fun _ => ⟨rfl, rfl⟩⟩
theorem gf_5019 : gfok (5019, 4, 8, 1) := ⟨RX5, TX5, 17, rfl, by decide, gT_of 223 (by decide +kernel) (by decide +kernel), fun h => absurd h (by decide), fun _ => ⟨rfl, rfl⟩⟩
theorem gf_5022 : gfok (5022, 4, 9, 1) := ⟨RX5, TX5, 17, rfl, by decide, gT_of 224 (by decide +kernel) (by decide +kernel), fun h => absurd h (by decide), fun _ => ⟨rfl, rfl⟩⟩
theorem gf_5025 : gfok (5025, 4, 10, 1) := ⟨RX5, TX5, 17, rfl, by decide, gT_of 225 (by decide +kernel) (by decide +kernel), fun h => absurd h (by decide), fun _ => ⟨rfl, rfl⟩⟩
theorem gf_5028 : gfok (5028, 4, 11, 1) := ⟨RX5, TX5, 17, rfl, by decide, gT_of 226 (by decide +kernel) (by decide +kernel), fun h => absurd h (by decide), fun _ => ⟨rfl, rfl⟩⟩
theorem gf_5085 : gfok (5085, 4, 12, 0) := ⟨RX5, TX5, 17, rfl, by decide, gT_of 227 (by decide +kernel) (by decide +kernel), fun _ => rfl, fun h => absurd h (by decide)⟩
theorem gf_5048 : gfok (5048, 4, 13, 0) := ⟨RX5, TX5, 17, rfl, by decide, gT_of 228 (by decide +kernel) (by decide +kernel), fun _ => rfl, fun h => absurd h (by decide)⟩
theorem gf_5088 : gfok (5088, 4, 14, 0) := ⟨RX5, TX5, 17, rfl, by decide, gT_of 229 (by decide +kernel) (by decide +kernel), fun _ => rfl, fun h => absurd h (by decide)⟩
theorem gf_5094 : gfok (5094, 4, 15, 0) := ⟨RX5, TX5, 17, rfl, by decide, gT_of 230 (by decide +kernel) (by decide +kernel), fun _ => rfl, fun h => absurd h (by decide)⟩
theorem gf_5097 : gfok (5097, 4, 16, 0) := ⟨RX5, TX5, 17, rfl, by decide, gT_of 231 (by decide +kernel) (by decide +kernel), fun _ => rfl, fun h => absurd h (by decide)⟩
theorem gf_6011 : gfok (6011, 5, 0, 1) := ⟨RX6, TX6, 11, rfl, by decide, gT_of 267 (by decide +kernel) (by decide +kernel), fun h => absurd h (by decide), fun _ => ⟨rfl, rfl⟩⟩
theorem gf_6018 : gfok (6018, 5, 1, 1) := ⟨RX6, TX6, 11, rfl, by decide, gT_of 268 (by decide +kernel) (by decide +kernel), fun h => absurd h (by decide), fun _ => ⟨rfl, rfl⟩⟩
theorem gf_6023 : gfok (6023, 5, 2, 1) := ⟨RX6, TX6, 11, rfl, by decide, gT_of 269 (by decide +kernel) (by decide +kernel), fun h => absurd h (by decide), fun _ => ⟨rfl, rfl⟩⟩
theorem gf_6032 : gfok (6032, 5, 3, 1) := ⟨RX6, TX6, 11, rfl, by decide, gT_of 270 (by decide +kernel) (by decide +kernel), fun h => absurd h (by decide), fun _ => ⟨rfl, rfl⟩⟩
theorem gf_6126 : gfok (6126, 5, 4, 0) := ⟨RX6, TX6, 11, rfl, by decide, gT_of 271 (by decide +kernel) (by decide +kernel), fun _ => rfl, fun h => absurd h (by decide)⟩
theorem gf_6105 : gfok (6105, 5, 5, 0) := ⟨RX6, TX6, 11, rfl, by decide, gT_of 272 (by decide +kernel) (by decide +kernel), fun _ => rfl, fun h => absurd h (by decide)⟩
theorem gf_6144 : gfok (6144, 5, 6, 0) := ⟨RX6, TX6, 11, rfl, by decide, gT_of 273 (by decide +kernel) (by decide +kernel), fun _ => rfl, fun h => absurd h (by decide)⟩
theorem gf_6147 : gfok (6147, 5, 7, 0) := ⟨RX6, TX6, 11, rfl, by decide, gT_of 274 (by decide +kernel) (by decide +kernel), fun _ => rfl, fun h => absurd h (by decide)⟩
theorem gf_6150 : gfok (6150, 5, 8, 0) := ⟨RX6, TX6, 11, rfl, by decide, gT_of 275 (by decide +kernel) (by decide +kernel), fun _ => rfl, fun h => absurd h (by decide)⟩
theorem gf_6160 : gfok (6160, 5, 9, 0) := ⟨RX6, TX6, 11, rfl, by decide, gT_of 276 (by decide +kernel) (by decide +kernel), fun _ => rfl, fun h => absurd h (by decide)⟩
theorem gf_6101 : gfok (6101, 5, 10, 0) := ⟨RX6, TX6, 11, rfl, by decide, gT_of 277 (by decide +kernel) (by decide +kernel), fun _ => rfl, fun h => absurd h (by decide)⟩
theorem gf_7087 : gfok (7087, 6, 0, 0) := ⟨RX7, TX7, 41, rfl, by decide, gT_of 699 (by decide +kernel) (by decide +kernel), fun _ => rfl, fun h => absurd h (by decide)⟩
theorem gf_7007 : gfok (7007, 6, 1, 1) := ⟨RX7, TX7, 41, rfl, by decide, gT_of 700 (by decide +kernel) (by decide +kernel), fun h => absurd h (by decide), fun _ => ⟨rfl, rfl⟩⟩
theorem gf_7013 : gfok (7013, 6, 2, 1) := ⟨RX7, TX7, 41, rfl, by decide, gT_of 701 (by decide +kernel) (by decide +kernel), fun h => absurd h (by decide), fun _ => ⟨rfl, rfl⟩⟩
theorem gf_7016 : gfok (7016, 6, 3, 1) := ⟨RX7, TX7, 41, rfl, by decide, gT_of 702 (by decide +kernel) (by decide +kernel), fun h => absurd h (by decide), fun _ => ⟨rfl, rfl⟩⟩
theorem gf_7020 : gfok (7020, 6, 4, 1) := ⟨RX7, TX7, 41, rfl, by decide, gT_of 703 (by decide +kernel) (by decide +kernel), fun h => absurd h (by decide), fun _ => ⟨rfl, rfl⟩⟩
theorem gf_7023 : gfok (7023, 6, 5, 1) := ⟨RX7, TX7, 41, rfl, by decide, gT_of 704 (by decide +kernel) (by decide +kernel), fun h => absurd h (by decide), fun _ => ⟨rfl, rfl⟩⟩
theorem gf_7026 : gfok (7026, 6, 6, 1) := ⟨RX7, TX7, 41, rfl, by decide, gT_of 705 (by decide +kernel) (by decide +kernel), fun h => absurd h (by decide), fun _ => ⟨rfl, rfl⟩⟩
theorem gf_7029 : gfok (7029, 6, 7, 1) := ⟨RX7, TX7, 41, rfl, by decide, gT_of 706 (by decide +kernel) (by decide +kernel), fun h => absurd h (by decide), fun _ => ⟨rfl, rfl⟩⟩
theorem gf_7032 : gfok (7032, 6, 8, 1) := ⟨RX7, TX7, 41, rfl, by decide, gT_of 707 (by decide +kernel) (by decide +kernel), fun h => absurd h (by decide), fun _ => ⟨rfl, rfl⟩⟩
theorem gf_7035 : gfok (7035, 6, 9, 1) := ⟨RX7, TX7, 41, rfl, by decide, gT_of 708 (by decide +kernel) (by decide +kernel), fun h => absurd h (by decide), fun _ => ⟨rfl, rfl⟩⟩
theorem gf_7038 : gfok (7038, 6, 10, 1) := ⟨RX7, TX7, 41, rfl, by decide, gT_of 709 (by decide +kernel) (by decide +kernel), fun h => absurd h (by decide), fun _ => ⟨rfl, rfl⟩⟩
theorem gf_7041 : gfok (7041, 6, 11, 1) := ⟨RX7, TX7, 41, rfl, by decide, gT_of 710 (by decide +kernel) (by decide +kernel), fun h => absurd h (by decide), fun _ => ⟨rfl, rfl⟩⟩
theorem gf_7124 : gfok (7124, 6, 12, 0) := ⟨RX7, TX7, 41, rfl, by decide, gT_of 711 (by decide +kernel) (by decide +kernel), fun _ => rfl, fun h => absurd h (by decide)⟩
theorem gf_7044 : gfok (7044, 6, 13, 1) := ⟨RX7, TX7, 41, rfl, by decide, gT_of 712 (by decide +kernel) (by decide +kernel), fun h => absurd h (by decide), fun _ => ⟨rfl, rfl⟩⟩
theorem gf_7047 : gfok (7047, 6, 14, 1) := ⟨RX7, TX7, 41, rfl, by decide, gT_of 713 (by decide +kernel) (by decide +kernel), fun h => absurd h (by decide), fun _ => ⟨rfl, rfl⟩⟩
theorem gf_7050 : gfok (7050, 6, 15, 1) := ⟨RX7, TX7, 41, rfl, by decide, gT_of 714 (by decide +kernel) (by decide +kernel), fun h => absurd h (by decide), fun _ => ⟨rfl, rfl⟩⟩
theorem gf_7053 : gfok (7053, 6, 16, 1) := ⟨RX7, TX7, 41, rfl, by decide, gT_of 715 (by decide +kernel) (by decide +kernel), fun h => absurd h (by decide), fun _ => ⟨rfl, rfl⟩⟩
theorem gf_7056 : gfok (7056, 6, 17, 1) := ⟨RX7, TX7, 41, rfl, by decide, gT_of 716 (by decide +kernel) (by decide +kernel), fun h => absurd h (by decide), fun _ => ⟨rfl, rfl⟩⟩
theorem gf_7131 : gfok (7131, 6, 18, 0) := ⟨RX7, TX7, 41, rfl, by decide, gT_of 717 (by decide +kernel) (by decide +kernel), fun _ => rfl, fun h => absurd h (by decide)⟩
theorem gf_7059 : gfok (7059, 6, 19, 1) := ⟨RX7, TX7, 41, rfl, by decide, gT_of 718 (by decide +kernel) (by decide +kernel), fun h => absurd h (by decide), fun _ => ⟨rfl, rfl⟩⟩
theorem gf_7062 : gfok (7062, 6, 20, 1) := ⟨RX7, TX7, 41, rfl, by decide, gT_of 719 (by decide +kernel) (by decide +kernel), fun h => absurd h (by decide), fun _ => ⟨rfl, rfl⟩⟩
theorem gf_7166 : gfok (7166, 6, 21, 0) := ⟨RX7, TX7, 41, rfl, by decide, gT_of 720 (by decide +kernel) (by decide +kernel), fun _ => rfl, fun h => absurd h (by decide)⟩
theorem gf_7180 : gfok (7180, 6, 22, 0) := ⟨RX7, TX7, 41, rfl, by decide, gT_of 721 (by decide +kernel) (by decide +kernel), fun _ => rfl, fun h => absurd h (by decide)⟩
theorem gf_7194 : gfok (7194, 6, 23, 0) := ⟨RX7, TX7, 41, rfl, by decide, gT_of 722 (by decide +kernel) (by decide +kernel), fun _ => rfl, fun h => absurd h (by decide)⟩
theorem gf_7149 : gfok (7149, 6, 24, 0) := ⟨RX7, TX7, 41, rfl, by decide, gT_of 723 (by decide +kernel) (by decide +kernel), fun _ => rfl, fun h => absurd h (by decide)⟩
theorem gf_7145 : gfok (7145, 6, 25, 0) := ⟨RX7, TX7, 41, rfl, by decide, gT_of 724 (by decide +kernel) (by decide +kernel), fun _ => rfl, fun h => absurd h (by decide)⟩
theorem gf_7066 : gfok (7066, 6, 26, 1) := ⟨RX7, TX7, 41, rfl, by decide, gT_of 725 (by decide +kernel) (by decide +kernel), fun h => absurd h (by decide), fun _ => ⟨rfl, rfl⟩⟩
theorem gf_7069 : gfok (7069, 6, 27, 1) := ⟨RX7, TX7, 41, rfl, by decide, gT_of 726 (by decide +kernel) (by decide +kernel), fun h => absurd h (by decide), fun _ => ⟨rfl, rfl⟩⟩
theorem gf_7072 : gfok (7072, 6, 28, 1) := ⟨RX7, TX7, 41, rfl, by decide, gT_of 727 (by decide +kernel) (by decide +kernel), fun h => absurd h (by decide), fun _ => ⟨rfl, rfl⟩⟩
theorem gf_7075 : gfok (7075, 6, 29, 1) := ⟨RX7, TX7, 41, rfl, by decide, gT_of 728 (by decide +kernel) (by decide +kernel), fun h => absurd h (by decide), fun _ => ⟨rfl, rfl⟩⟩
theorem gf_7078 : gfok (7078, 6, 30, 1) := ⟨RX7, TX7, 41, rfl, by decide, gT_of 729 (by decide +kernel) (by decide +kernel), fun h => absurd h (by decide), fun _ => ⟨rfl, rfl⟩⟩
theorem gf_7081 : gfok (7081, 6, 31, 1) := ⟨RX7, TX7, 41, rfl, by decide, gT_of 730 (by decide +kernel) (by decide +kernel), fun h => absurd h (by decide), fun _ => ⟨rfl, rfl⟩⟩
theorem gf_7152 : gfok (7152, 6, 32, 0) := ⟨RX7, TX7, 41, rfl, by decide, gT_of 731 (by decide +kernel) (by decide +kernel), fun _ => rfl, fun h => absurd h (by decide)⟩
theorem gf_7219 : gfok (7219, 6, 33, 0) := ⟨RX7, TX7, 41, rfl, by decide, gT_of 732 (by decide +kernel) (by decide +kernel), fun _ => rfl, fun h => absurd h (by decide)⟩
theorem gf_7200 : gfok (7200, 6, 34, 0) := ⟨RX7, TX7, 41, rfl, by decide, gT_of 733 (by decide +kernel) (by decide +kernel), fun _ => rfl, fun h => absurd h (by decide)⟩
theorem gf_7203 : gfok (7203, 6, 35, 0) := ⟨RX7, TX7, 41, rfl, by decide, gT_of 734 (by decide +kernel) (by decide +kernel), fun _ => rfl, fun h => absurd h (by decide)⟩
theorem gf_7210 : gfok (7210, 6, 36, 0) := ⟨RX7, TX7, 41, rfl, by decide, gT_of 735 (by decide +kernel) (by decide +kernel), fun _ => rfl, fun h => absurd h (by decide)⟩
theorem gf_7213 : gfok (7213, 6, 37, 0) := ⟨RX7, TX7, 41, rfl, by decide, gT_of 736 (by decide +kernel) (by decide +kernel), fun _ => rfl, fun h => absurd h (by decide)⟩
theorem gf_7206 : gfok (7206, 6, 38, 0) := ⟨RX7, TX7, 41, rfl, by decide, gT_of 737 (by decide +kernel) (by decide +kernel), fun _ => rfl, fun h => absurd h (by decide)⟩
theorem gf_7222 : gfok (7222, 6, 39, 0) := ⟨RX7, TX7, 41, rfl, by decide, gT_of 738 (by decide +kernel) (by decide +kernel), fun _ => rfl, fun h => absurd h (by decide)⟩
theorem gf_7084 : gfok (7084, 6, 40, 1) := ⟨RX7, TX7, 41, rfl, by decide, gT_of 739 (by decide +kernel) (by decide +kernel), fun h => absurd h (by decide), fun _ => ⟨rfl, rfl⟩⟩
theorem gflt_ok : ∀ q ∈ gflt, gfok q := List.forall_mem_cons.mpr ⟨gf_3009, List.forall_mem_cons.mpr ⟨gf_5189, List.forall_mem_cons.mpr ⟨gf_1096, List.forall_mem_cons.mpr ⟨gf_3021, List.forall_mem_cons.mpr ⟨gf_5181, List.forall_mem_cons.mpr ⟨gf_1088, List.forall_mem_cons.mpr ⟨gf_3025, List.forall_mem_cons.mpr ⟨gf_1093, List.forall_mem_cons.mpr ⟨gf_9, List.forall_mem_cons.mpr ⟨gf_5132, List.forall_mem_cons.mpr ⟨gf_6082, List.forall_mem_cons.mpr ⟨gf_1070, List.forall_mem_cons.mpr ⟨gf_15, List.forall_mem_cons.mpr ⟨gf_4070, List.forall_mem_cons.mpr ⟨gf_6090, List.forall_mem_cons.mpr ⟨gf_1073, List.forall_mem_cons.mpr ⟨gf_5199, List.forall_mem_cons.mpr ⟨gf_19, List.forall_mem_cons.mpr ⟨gf_4042, List.forall_mem_cons.mpr ⟨gf_6087, List.forall_mem_cons.mpr ⟨gf_1067, List.forall_mem_cons.mpr ⟨gf_2011, List.forall_mem_cons.mpr ⟨gf_4025, List.forall_mem_cons.mpr ⟨gf_5128, List.forall_mem_cons.mpr ⟨gf_6078, List.forall_mem_cons.mpr ⟨gf_2032, List.forall_mem_cons.mpr ⟨gf_5052, List.forall_mem_cons.mpr ⟨gf_4055, List.forall_mem_cons.mpr ⟨gf_6066, List.forall_mem_cons.mpr ⟨gf_2018, List.forall_mem_cons.mpr ⟨gf_5159, List.forall_mem_cons.mpr ⟨gf_6141, List.forall_mem_cons.mpr ⟨gf_2022, List.forall_mem_cons.mpr ⟨gf_5091, List.forall_mem_cons.mpr ⟨gf_2026, List.forall_mem_cons.mpr ⟨gf_5168, List.forall_mem_cons.mpr ⟨gf_2029, List.forall_mem_cons.mpr ⟨gf_5165, List.forall_mem_cons.mpr ⟨gf_2035, List.forall_mem_cons.mpr ⟨gf_5175, List.forall_mem_cons.mpr ⟨gf_1034, List.forall_mem_cons.mpr ⟨gf_1009, List.forall_mem_cons.mpr ⟨gf_1015, List.forall_mem_cons.mpr ⟨gf_1021, List.forall_mem_cons.mpr ⟨gf_1025, List.forall_mem_cons.mpr ⟨gf_1028, List.forall_mem_cons.mpr ⟨gf_1031, List.forall_mem_cons.mpr ⟨gf_1038, List.forall_mem_cons.mpr ⟨gf_1042, List.forall_mem_cons.mpr ⟨gf_6118, List.forall_mem_cons.mpr ⟨gf_1045, List.forall_mem_cons.mpr ⟨gf_5121, List.forall_mem_cons.mpr ⟨gf_5040, List.forall_mem_cons.mpr ⟨gf_6114, List.forall_mem_cons.mpr ⟨gf_5075, List.forall_mem_cons.mpr ⟨gf_6108, List.forall_mem_cons.mpr ⟨gf_5078, List.forall_mem_cons.mpr ⟨gf_6111, List.forall_mem_cons.mpr ⟨gf_5062, List.forall_mem_cons.mpr ⟨gf_6123, List.forall_mem_cons.mpr ⟨gf_5081, List.forall_mem_cons.mpr ⟨gf_6163, List.forall_mem_cons.mpr ⟨gf_5031, List.forall_mem_cons.mpr ⟨gf_5009, List.forall_mem_cons.mpr ⟨gf_5015, List.forall_mem_cons.mpr ⟨gf_5019, List.forall_mem_cons.mpr ⟨gf_5022, List.forall_mem_cons.mpr ⟨gf_5025, List.forall_mem_cons.mpr ⟨gf_5028, List.forall_mem_cons.mpr ⟨gf_5085, List.forall_mem_cons.mpr ⟨gf_5048, List.forall_mem_cons.mpr ⟨gf_5088, List.forall_mem_cons.mpr ⟨gf_5094, List.forall_mem_cons.mpr ⟨gf_5097, List.forall_mem_cons.mpr ⟨gf_6011, List.forall_mem_cons.mpr ⟨gf_6018, List.forall_mem_cons.mpr ⟨gf_6023, List.forall_mem_cons.mpr ⟨gf_6032, List.forall_mem_cons.mpr ⟨gf_6126, List.forall_mem_cons.mpr ⟨gf_6105, List.forall_mem_cons.mpr ⟨gf_6144, List.forall_mem_cons.mpr ⟨gf_6147, List.forall_mem_cons.mpr ⟨gf_6150, List.forall_mem_cons.mpr ⟨gf_6160, List.forall_mem_cons.mpr ⟨gf_6101, List.forall_mem_cons.mpr ⟨gf_7087, List.forall_mem_cons.mpr ⟨gf_7007, List.forall_mem_cons.mpr ⟨gf_7013, List.forall_mem_cons.mpr ⟨gf_7016, List.forall_mem_cons.mpr ⟨gf_7020, List.forall_mem_cons.mpr ⟨gf_7023, List.forall_mem_cons.mpr ⟨gf_7026, List.forall_mem_cons.mpr ⟨gf_7029, List.forall_mem_cons.mpr ⟨gf_7032, List.forall_mem_cons.mpr ⟨gf_7035, List.forall_mem_cons.mpr ⟨gf_7038, List.forall_mem_cons.mpr ⟨gf_7041, List.forall_mem_cons.mpr ⟨gf_7124, List.forall_mem_cons.mpr ⟨gf_7044, List.forall_mem_cons.mpr ⟨gf_7047, List.forall_mem_cons.mpr ⟨gf_7050, List.forall_mem_cons.mpr ⟨gf_7053, List.forall_mem_cons.mpr ⟨gf_7056, List.forall_mem_cons.mpr ⟨gf_7131, List.forall_mem_cons.mpr ⟨gf_7059, List.forall_mem_cons.mpr ⟨gf_7062, List.forall_mem_cons.mpr ⟨gf_7166, List.forall_mem_cons.mpr ⟨gf_7180, List.forall_mem_cons.mpr ⟨gf_7194, List.forall_mem_cons.mpr ⟨gf_7149, List.forall_mem_cons.mpr ⟨gf_7145, List.forall_mem_cons.mpr ⟨gf_7066, List.forall_mem_cons.mpr ⟨gf_7069, List.forall_mem_cons.mpr ⟨gf_7072, List.forall_mem_cons.mpr ⟨gf_7075, List.forall_mem_cons.mpr ⟨gf_7078, List.forall_mem_cons.mpr ⟨gf_7081, List.forall_mem_cons.mpr ⟨gf_7152, List.forall_mem_cons.mpr ⟨gf_7219, List.forall_mem_cons.mpr ⟨gf_7200, List.forall_mem_cons.mpr ⟨gf_7203, List.forall_mem_cons.mpr ⟨gf_7210, List.forall_mem_cons.mpr ⟨gf_7213, List.forall_mem_cons.mpr ⟨gf_7206, List.forall_mem_cons.mpr ⟨gf_7222, List.forall_mem_cons.mpr ⟨gf_7084, fun _ h => absurd h List.not_mem_nil⟩⟩⟩⟩⟩⟩⟩⟩⟩⟩⟩⟩⟩⟩⟩⟩⟩⟩⟩⟩⟩⟩⟩⟩⟩⟩⟩⟩⟩⟩⟩⟩⟩⟩⟩⟩⟩⟩⟩⟩⟩⟩⟩⟩⟩⟩⟩⟩⟩⟩⟩⟩⟩⟩⟩⟩⟩⟩⟩⟩⟩⟩⟩⟩⟩⟩⟩⟩⟩⟩⟩⟩⟩⟩⟩⟩⟩⟩⟩⟩⟩⟩⟩⟩⟩⟩⟩⟩⟩⟩⟩⟩⟩⟩⟩⟩⟩⟩⟩⟩⟩⟩⟩⟩⟩⟩⟩⟩⟩⟩⟩⟩⟩⟩⟩⟩⟩⟩⟩⟩⟩⟩⟩⟩⟩⟩
def gFL (o ix : Nat) : Option (Nat × Nat × Nat) := if ix < 1000 then glup (1000 * o + ix) gflt else none
theorem fl_3_9 : gFL 3 9 = some (3, 0, 1) := by decide +kernel
theorem fl_5_189 : gFL 5 189 = some (3, 0, 2) := by decide +kernel
theorem fl_1_96 : gFL 1 96 = some (3, 0, 2) := by decide +kernel
theorem fl_3_21 : gFL 3 21 = some (3, 1, 0) := by decide +kernel
theorem fl_5_181 : gFL 5 181 = some (3, 1, 0) := by decide +kernel
theorem fl_1_88 : gFL 1 88 = some (3, 1, 0) := by decide +kernel
theorem fl_3_25 : gFL 3 25 = some (3, 2, 0) := by decide +kernel
theorem fl_1_93 : gFL 1 93 = some (3, 2, 0) := by decide +kernel
theorem fl_0_9 : gFL 0 9 = some (0, 0, 1) := by decide +kernel
theorem fl_5_132 : gFL 5 132 = some (0, 0, 2) := by decide +kernel
theorem fl_6_82 : gFL 6 82 = some (0, 0, 2) := by decide +kernel
theorem fl_1_70 : gFL 1 70 = some (0, 0, 2) := by decide +kernel
theorem fl_0_15 : gFL 0 15 = some (0, 1, 1) := by decide +kernel
theorem fl_4_70 : gFL 4 70 = some (0, 1, 2) := by decide +kernel
theorem fl_6_90 : gFL 6 90 = some (0, 1, 2) := by decide +kernel
theorem fl_1_73 : gFL 1 73 = some (0, 1, 2) := by decide +kernel
theorem fl_5_199 : gFL 5 199 = some (0, 1, 2) := by decide +kernel
theorem fl_0_19 : gFL 0 19 = some (0, 2, 0) := by decide +kernel
theorem fl_4_42 : gFL 4 42 = some (0, 2, 0) := by decide +kernel
theorem fl_6_87 : gFL 6 87 = some (0, 2, 0) := by decide +kernel
theorem fl_1_67 : gFL 1 67 = some (0, 2, 0) := by decide +kernel
theorem fl_2_11 : gFL 2 11 = some (2, 0, 1) := by decide +kernel
theorem fl_4_25 : gFL 4 25 = some (2, 0, 2) := by decide +kernel
theorem fl_5_128 : gFL 5 128 = some (2, 0, 2) := by decide +kernel
theorem fl_6_78 : gFL 6 78 = some (2, 0, 2) := by decide +kernel
theorem fl_2_32 : gFL 2 32 = some (2, 1, 0) := by decide +kernel
theorem fl_5_52 : gFL 5 52 = some (2, 1, 0) := by decide +kernel
theorem fl_4_55 : gFL 4 55 = some (2, 1, 0) := by decide +kernel
theorem fl_6_66 : gFL 6 66 = some (2, 1, 0) := by decide +kernel
theorem fl_2_18 : gFL 2 18 = some (2, 2, 0) := by decide +kernel
theorem fl_5_159 : gFL 5 159 = some (2, 2, 0) := by decide +kernel
theorem fl_6_141 : gFL 6 141 = some (2, 2, 0) := by decide +kernel
theorem fl_2_22 : gFL 2 22 = some (2, 3, 0) := by decide +kernel
theorem fl_5_91 : gFL 5 91 = some (2, 3, 0) := by decide +kernel
theorem fl_2_26 : gFL 2 26 = some (2, 4, 0) := by decide +kernel
theorem fl_5_168 : gFL 5 168 = some (2, 4, 0) := by decide +kernel
theorem fl_2_29 : gFL 2 29 = some (2, 5, 0) := by decide +kernel
theorem fl_5_165 : gFL 5 165 = some (2, 5, 0) := by decide +kernel
theorem fl_2_35 : gFL 2 35 = some (2, 6, 0) := by decide +kernel
theorem fl_5_175 : gFL 5 175 = some (2, 6, 0) := by decide +kernel
theorem fl_1_34 : gFL 1 34 = some (1, 0, 1) := by decide +kernel
theorem fl_1_9 : gFL 1 9 = some (1, 1, 1) := by decide +kernel
theorem fl_1_15 : gFL 1 15 = some (1, 2, 1) := by decide +kernel
theorem fl_1_21 : gFL 1 21 = some (1, 3, 1) := by decide +kernel
theorem fl_1_25 : gFL 1 25 = some (1, 4, 1) := by decide +kernel
theorem fl_1_28 : gFL 1 28 = some (1, 5, 1) := by decide +kernel
theorem fl_1_31 : gFL 1 31 = some (1, 6, 1) := by decide +kernel
theorem fl_1_38 : gFL 1 38 = some (1, 7, 0) := by decide +kernel
theorem fl_1_42 : gFL 1 42 = some (1, 8, 0) := by decide +kernel
theorem fl_6_118 : gFL 6 118 = some (1, 8, 0) := by decide +kernel
theorem fl_1_45 : gFL 1 45 = some (1, 9, 0) := by decide +kernel
theorem fl_5_121 : gFL 5 121 = some (1, 9, 0) := by decide +kernel
theorem fl_5_40 : gFL 5 40 = some (4, 0, 1) := by decide +kernel
theorem fl_6_114 : gFL 6 114 = some (4, 0, 2) := by decide +kernel
theorem fl_5_75 : gFL 5 75 = some (4, 1, 0) := by decide +kernel
theorem fl_6_108 : gFL 6 108 = some (4, 1, 0) := by decide +kernel
theorem fl_5_78 : gFL 5 78 = some (4, 2, 0) := by decide +kernel
theorem fl_6_111 : gFL 6 111 = some (4, 2, 0) := by decide +kernel
theorem fl_5_62 : gFL 5 62 = some (4, 3, 0) := by decide +kernel
theorem fl_6_123 : gFL 6 123 = some (4, 3, 0) := by decide +kernel
theorem fl_5_81 : gFL 5 81 = some (4, 4, 0) := by decide +kernel
theorem fl_6_163 : gFL 6 163 = some (4, 4, 0) := by decide +kernel
theorem fl_5_31 : gFL 5 31 = some (4, 5, 1) := by decide +kernel
theorem fl_5_9 : gFL 5 9 = some (4, 6, 1) := by decide +kernel
theorem fl_5_15 : gFL 5 15 = some (4, 7, 1) := by decide +kernel
theorem fl_5_19 : gFL 5 19 = some (4, 8, 1) := by decide +kernel
theorem fl_5_22 : gFL 5 22 = some (4, 9, 1) := by decide +kernel
theorem fl_5_25 : gFL 5 25 = some (4, 10, 1) := by decide +kernel
theorem fl_5_28 : gFL 5 28 = some (4, 11, 1) := by decide +kernel
theorem fl_5_85 : gFL 5 85 = some (4, 12, 0) := by decide +kernel
theorem fl_5_48 : gFL 5 48 = some (4, 13, 0) := by decide +kernel
theorem fl_5_88 : gFL 5 88 = some (4, 14, 0) := by decide +kernel
theorem fl_5_94 : gFL 5 94 = some (4, 15, 0) := by decide +kernel
theorem fl_5_97 : gFL 5 97 = some (4, 16, 0) := by decide +kernel
theorem fl_6_11 : gFL 6 11 = some (5, 0, 1) := by decide +kernel
theorem fl_6_18 : gFL 6 18 = some (5, 1, 1) := by decide +kernel
theorem fl_6_23 : gFL 6 23 = some (5, 2, 1) := by decide +kernel
theorem fl_6_32 : gFL 6 32 = some (5, 3, 1) := by decide +kernel
theorem fl_6_126 : gFL 6 126 = some (5, 4, 0) := by decide +kernel
theorem fl_6_105 : gFL 6 105 = some (5, 5, 0) := by decide +kernel
theorem fl_6_144 : gFL 6 144 = some (5, 6, 0) := by decide +kernel
theorem fl_6_147 : gFL 6 147 = some (5, 7, 0) := by decide +kernel
theorem fl_6_150 : gFL 6 150 = some (5, 8, 0) := by decide +kernel
theorem fl_6_160 : gFL 6 160 = some (5, 9, 0) := by decide +kernel
theorem fl_6_101 : gFL 6 101 = some (5, 10, 0) := by decide +kernel
theorem fl_7_87 : gFL 7 87 = some (6, 0, 0) := by decide +kernel
theorem fl_7_7 : gFL 7 7 = some (6, 1, 1) := by decide +kernel
theorem fl_7_13 : gFL 7 13 = some (6, 2, 1) := by decide +kernel
theorem fl_7_16 : gFL 7 16 = some (6, 3, 1) := by decide +kernel
theorem fl_7_20 : gFL 7 20 = some (6, 4, 1) := by decide +kernel
theorem fl_7_23 : gFL 7 23 = some (6, 5, 1) := by decide +kernel
theorem fl_7_26 : gFL 7 26 = some (6, 6, 1) := by decide +kernel
theorem fl_7_29 : gFL 7 29 = some (6, 7, 1) := by decide +kernel
theorem fl_7_32 : gFL 7 32 = some (6, 8, 1) := by decide +kernel
theorem fl_7_35 : gFL 7 35 = some (6, 9, 1) := by decide +kernel
theorem fl_7_38 : gFL 7 38 = some (6, 10, 1) := by decide +kernel
theorem fl_7_41 : gFL 7 41 = some (6, 11, 1) := by decide +kernel
theorem fl_7_124 : gFL 7 124 = some (6, 12, 0) := by decide +kernel
theorem fl_7_44 : gFL 7 44 = some (6, 13, 1) := by decide +kernel
theorem fl_7_47 : gFL 7 47 = some (6, 14, 1) := by decide +kernel
theorem fl_7_50 : gFL 7 50 = some (6, 15, 1) := by decide +kernel
theorem fl_7_53 : gFL 7 53 = some (6, 16, 1) := by decide +kernel
theorem fl_7_56 : gFL 7 56 = some (6, 17, 1) := by decide +kernel
theorem fl_7_131 : gFL 7 131 = some (6, 18, 0) := by decide +kernel
theorem fl_7_59 : gFL 7 59 = some (6, 19, 1) := by decide +kernel
theorem fl_7_62 : gFL 7 62 = some (6, 20, 1) := by decide +kernel
theorem fl_7_166 : gFL 7 166 = some (6, 21, 0) := by decide +kernel
theorem fl_7_180 : gFL 7 180 = some (6, 22, 0) := by decide +kernel
theorem fl_7_194 : gFL 7 194 = some (6, 23, 0) := by decide +kernel
theorem fl_7_149 : gFL 7 149 = some (6, 24, 0) := by decide +kernel
theorem fl_7_145 : gFL 7 145 = some (6, 25, 0) := by decide +kernel
theorem fl_7_66 : gFL 7 66 = some (6, 26, 1) := by decide +kernel
theorem fl_7_69 : gFL 7 69 = some (6, 27, 1) := by decide +kernel
theorem fl_7_72 : gFL 7 72 = some (6, 28, 1) := by decide +kernel
theorem fl_7_75 : gFL 7 75 = some (6, 29, 1) := by decide +kernel
theorem fl_7_78 : gFL 7 78 = some (6, 30, 1) := by decide +kernel
theorem fl_7_81 : gFL 7 81 = some (6, 31, 1) := by decide +kernel
theorem fl_7_152 : gFL 7 152 = some (6, 32, 0) := by decide +kernel
theorem fl_7_219 : gFL 7 219 = some (6, 33, 0) := by decide +kernel
theorem fl_7_200 : gFL 7 200 = some (6, 34, 0) := by decide +kernel
theorem fl_7_203 : gFL 7 203 = some (6, 35, 0) := by decide +kernel
theorem fl_7_210 : gFL 7 210 = some (6, 36, 0) := by decide +kernel
theorem fl_7_213 : gFL 7 213 = some (6, 37, 0) := by decide +kernel
theorem fl_7_206 : gFL 7 206 = some (6, 38, 0) := by decide +kernel
theorem fl_7_222 : gFL 7 222 = some (6, 39, 0) := by decide +kernel
theorem fl_7_84 : gFL 7 84 = some (6, 40, 1) := by decide +kernel
def gclt : List (Nat × Nat) := [(8008, 5), (6009, 3), (6016, 2), (2009, 0), (6027, 4), (5035, 1), (1019, 0), (8016, 6)]
def gcok (q : Nat × Nat) : Prop := ∃ (C : String) (T : u_T) (N : Nat), vwCl[q.2]? = some (C, T, N) ∧ Cond.classLink (gown (q.1 / 1000)) (q.1 % 1000) C ∈ gT ∧ Cond.instantiable C N ∈ gT ∧ Cond.initialized C ∈ gT
theorem gc_8008 : gcok (8008, 5) := ⟨RX6, TX6, 11, rfl, gT_of 63 (by decide +kernel) (by decide +kernel), gT_of 64 (by decide +kernel) (by decide +kernel), gT_of 49 (by decide +kernel) (by decide +kernel)⟩
theorem gc_6009 : gcok (6009, 3) := ⟨RX3, TX3, 3, rfl, gT_of 71 (by decide +kernel) (by decide +kernel), gT_of 73 (by decide +kernel) (by decide +kernel), gT_of 50 (by decide +kernel) (by decide +kernel)⟩
theorem gc_6016 : gcok (6016, 2) := ⟨RX2, TX2, 7, rfl, gT_of 94 (by decide +kernel) (by decide +kernel), gT_of 96 (by decide +kernel) (by decide +kernel), gT_of 51 (by decide +kernel) (by decide +kernel)⟩
theorem gc_2009 : gcok (2009, 0) := ⟨RX0, TX0, 3, rfl, gT_of 101 (by decide +kernel) (by decide +kernel), gT_of 103 (by decide +kernel) (by decide +kernel), gT_of 52 (by decide +kernel) (by decide +kernel)⟩
theorem gc_6027 : gcok (6027, 4) := ⟨RX5, TX5, 17, rfl, gT_of 163 (by decide +kernel) (by decide +kernel), gT_of 164 (by decide +kernel) (by decide +kernel), gT_of 53 (by decide +kernel) (by decide +kernel)⟩
theorem gc_5035 : gcok (5035, 1) := ⟨RX1, TX1, 10, rfl, gT_of 169 (by decide +kernel) (by decide +kernel), gT_of 170 (by decide +kernel) (by decide +kernel), gT_of 54 (by decide +kernel) (by decide +kernel)⟩
theorem gc_1019 : gcok (1019, 0) := ⟨RX0, TX0, 3, rfl, gT_of 175 (by decide +kernel) (by decide +kernel), gT_of 103 (by decide +kernel) (by decide +kernel), gT_of 52 (by decide +kernel) (by decide +kernel)⟩
theorem gc_8016 : gcok (8016, 6) := ⟨RX7, TX7, 41, rfl, gT_of 693 (by decide +kernel) (by decide +kernel), gT_of 694 (by decide +kernel) (by decide +kernel), gT_of 55 (by decide +kernel) (by decide +kernel)⟩
theorem gclt_ok : ∀ q ∈ gclt, gcok q := List.forall_mem_cons.mpr ⟨gc_8008, List.forall_mem_cons.mpr ⟨gc_6009, List.forall_mem_cons.mpr ⟨gc_6016, List.forall_mem_cons.mpr ⟨gc_2009, List.forall_mem_cons.mpr ⟨gc_6027, List.forall_mem_cons.mpr ⟨gc_5035, List.forall_mem_cons.mpr ⟨gc_1019, List.forall_mem_cons.mpr ⟨gc_8016, fun _ h => absurd h List.not_mem_nil⟩⟩⟩⟩⟩⟩⟩⟩
def gCL (o ix : Nat) : Option Nat := if ix < 1000 then glup (1000 * o + ix) gclt else none
theorem cl_8_8 : gCL 8 8 = some 5 := by decide +kernel
theorem cl_6_9 : gCL 6 9 = some 3 := by decide +kernel
theorem cl_6_16 : gCL 6 16 = some 2 := by decide +kernel
theorem cl_2_9 : gCL 2 9 = some 0 := by decide +kernel
theorem cl_6_27 : gCL 6 27 = some 4 := by decide +kernel
theorem cl_5_35 : gCL 5 35 = some 1 := by decide +kernel
theorem cl_1_19 : gCL 1 19 = some 0 := by decide +kernel
theorem cl_8_16 : gCL 8 16 = some 6 := by decide +kernel
def gllt : List (Nat × Int64) := [(6166, 6), (6168, 100), (5115, 100), (7091, 5), (7101, 3), (7103, 16), (7108, -1), (7110, 40), (7112, 11), (7114, 100), (7192, 4), (7225, 7), (7227, 6), (8024, 4294967295)]
def glok (q : Nat × Int64) : Prop := Cond.constantLong (gown (q.1 / 1000)) (q.1 % 1000) q.2 ∈ gT
theorem gll_6166 : glok (6166, 6) := gT_of 353 (by decide +kernel) (by decide +kernel)
theorem gll_6168 : glok (6168, 100) := gT_of 354 (by decide +kernel) (by decide +kernel)
theorem gll_5115 : glok (5115, 100) := gT_of 521 (by decide +kernel) (by decide +kernel)
theorem gll_7091 : glok (7091, 5) := gT_of 834 (by decide +kernel) (by decide +kernel)
theorem gll_7101 : glok (7101, 3) := gT_of 838 (by decide +kernel) (by decide +kernel)
theorem gll_7103 : glok (7103, 16) := gT_of 839 (by decide +kernel) (by decide +kernel)
theorem gll_7108 : glok (7108, -1) := gT_of 851 (by decide +kernel) (by decide +kernel)
theorem gll_7110 : glok (7110, 40) := gT_of 852 (by decide +kernel) (by decide +kernel)
theorem gll_7112 : glok (7112, 11) := gT_of 861 (by decide +kernel) (by decide +kernel)
theorem gll_7114 : glok (7114, 100) := gT_of 862 (by decide +kernel) (by decide +kernel)
theorem gll_7192 : glok (7192, 4) := gT_of 891 (by decide +kernel) (by decide +kernel)
theorem gll_7225 : glok (7225, 7) := gT_of 964 (by decide +kernel) (by decide +kernel)
theorem gll_7227 : glok (7227, 6) := gT_of 969 (by decide +kernel) (by decide +kernel)
theorem gll_8024 : glok (8024, 4294967295) := gT_of 1002 (by decide +kernel) (by decide +kernel)
theorem gllt_ok : ∀ q ∈ gllt, glok q := List.forall_mem_cons.mpr ⟨gll_6166, List.forall_mem_cons.mpr ⟨gll_6168, List.forall_mem_cons.mpr ⟨gll_5115, List.forall_mem_cons.mpr ⟨gll_7091, List.forall_mem_cons.mpr ⟨gll_7101, List.forall_mem_cons.mpr ⟨gll_7103, List.forall_mem_cons.mpr ⟨gll_7108, List.forall_mem_cons.mpr ⟨gll_7110, List.forall_mem_cons.mpr ⟨gll_7112, List.forall_mem_cons.mpr ⟨gll_7114, List.forall_mem_cons.mpr ⟨gll_7192, List.forall_mem_cons.mpr ⟨gll_7225, List.forall_mem_cons.mpr ⟨gll_7227, List.forall_mem_cons.mpr ⟨gll_8024, fun _ h => absurd h List.not_mem_nil⟩⟩⟩⟩⟩⟩⟩⟩⟩⟩⟩⟩⟩⟩
def gLC (o ix : Nat) : Option Int64 := if ix < 1000 then glup (1000 * o + ix) gllt else none
theorem lc_6_166 : gLC 6 166 = some (6) := by decide +kernel
theorem lc_6_168 : gLC 6 168 = some (100) := by decide +kernel
theorem lc_5_115 : gLC 5 115 = some (100) := by decide +kernel
theorem lc_7_91 : gLC 7 91 = some (5) := by decide +kernel
theorem lc_7_101 : gLC 7 101 = some (3) := by decide +kernel
theorem lc_7_103 : gLC 7 103 = some (16) := by decide +kernel
theorem lc_7_108 : gLC 7 108 = some (-1) := by decide +kernel
theorem lc_7_110 : gLC 7 110 = some (40) := by decide +kernel
theorem lc_7_112 : gLC 7 112 = some (11) := by decide +kernel
theorem lc_7_114 : gLC 7 114 = some (100) := by decide +kernel
theorem lc_7_192 : gLC 7 192 = some (4) := by decide +kernel
theorem lc_7_225 : gLC 7 225 = some (7) := by decide +kernel
theorem lc_7_227 : gLC 7 227 = some (6) := by decide +kernel
theorem lc_8_24 : gLC 8 24 = some (4294967295) := by decide +kernel
def goit : List (Nat × Nat) := [(6001, 0), (3003, 0), (2003, 0), (3, 0), (5003, 0), (1003, 0), (7001, 0)]
theorem goi_6001 : Cond.methodLink (gown (6001 / 1000)) (6001 % 1000) objectInit ∈ gT := gT_of 68 (by decide +kernel) (by decide +kernel)
theorem goi_3003 : Cond.methodLink (gown (3003 / 1000)) (3003 % 1000) objectInit ∈ gT := gT_of 77 (by decide +kernel) (by decide +kernel)
theorem goi_2003 : Cond.methodLink (gown (2003 / 1000)) (2003 % 1000) objectInit ∈ gT := gT_of 100 (by decide +kernel) (by decide +kernel)
theorem goi_3 : Cond.methodLink (gown (3 / 1000)) (3 % 1000) objectInit ∈ gT := gT_of 107 (by decide +kernel) (by decide +kernel)
theorem goi_5003 : Cond.methodLink (gown (5003 / 1000)) (5003 % 1000) objectInit ∈ gT := gT_of 168 (by decide +kernel) (by decide +kernel)
theorem goi_1003 : Cond.methodLink (gown (1003 / 1000)) (1003 % 1000) objectInit ∈ gT := gT_of 174 (by decide +kernel) (by decide +kernel)
theorem goi_7001 : Cond.methodLink (gown (7001 / 1000)) (7001 % 1000) objectInit ∈ gT := gT_of 698 (by decide +kernel) (by decide +kernel)
theorem goit_ok : ∀ q ∈ goit, Cond.methodLink (gown (q.1 / 1000)) (q.1 % 1000) objectInit ∈ gT := List.forall_mem_cons.mpr ⟨goi_6001, List.forall_mem_cons.mpr ⟨goi_3003, List.forall_mem_cons.mpr ⟨goi_2003, List.forall_mem_cons.mpr ⟨goi_3, List.forall_mem_cons.mpr ⟨goi_5003, List.forall_mem_cons.mpr ⟨goi_1003, List.forall_mem_cons.mpr ⟨goi_7001, fun _ h => absurd h List.not_mem_nil⟩⟩⟩⟩⟩⟩⟩
def gOI (o ix : Nat) : Option Nat := if ix < 1000 then glup (1000 * o + ix) goit else none
theorem oi_6_1 : gOI 6 1 = some 0 := by decide +kernel
theorem oi_3_3 : gOI 3 3 = some 0 := by decide +kernel
theorem oi_2_3 : gOI 2 3 = some 0 := by decide +kernel
theorem oi_0_3 : gOI 0 3 = some 0 := by decide +kernel
theorem oi_5_3 : gOI 5 3 = some 0 := by decide +kernel
theorem oi_1_3 : gOI 1 3 = some 0 := by decide +kernel
theorem oi_7_1 : gOI 7 1 = some 0 := by decide +kernel
theorem goi_in : Cond.instanceMethod objectInit ∈ gT := gT_of 69 (by decide +kernel) (by decide +kernel)
theorem goi_code : Cond.code objectInit ⟨#[0xb1]⟩ 1 none ∈ gT := gT_of 70 (by decide +kernel) (by decide +kernel)
theorem gac_int : Cond.arrayClass .int ∈ gT := gT_of 128 (by decide +kernel) (by decide +kernel)
theorem gac_long : Cond.arrayClass .long ∈ gT := gT_of 93 (by decide +kernel) (by decide +kernel)
theorem gac_boolean : Cond.arrayClass .boolean ∈ gT := gT_of 209 (by decide +kernel) (by decide +kernel)
theorem gin_0 : ∀ w ∈ u_ws RX0 TX0 3, w ∈ gT := gT_sub [121, 123, 125] (by decide +kernel) (by decide +kernel)
theorem gin_1 : ∀ w ∈ u_ws RX1 TX1 10, w ∈ gT := gT_sub [188, 190, 192, 194, 196, 198, 200, 202, 204, 206] (by decide +kernel) (by decide +kernel)
theorem gin_2 : ∀ w ∈ u_ws RX2 TX2 7, w ∈ gT := gT_sub [148, 150, 152, 154, 156, 158, 160] (by decide +kernel) (by decide +kernel)
theorem gin_3 : ∀ w ∈ u_ws RX3 TX3 3, w ∈ gT := gT_sub [86, 88, 90] (by decide +kernel) (by decide +kernel)
theorem gin_4 : ∀ w ∈ u_ws RX5 TX5 17, w ∈ gT := gT_sub [232, 234, 236, 238, 240, 242, 244, 246, 248, 250, 252, 254, 256, 258, 260, 262, 264] (by decide +kernel) (by decide +kernel)
theorem gin_5 : ∀ w ∈ u_ws RX6 TX6 11, w ∈ gT := gT_sub [278, 280, 282, 284, 286, 288, 290, 292, 294, 296, 298] (by decide +kernel) (by decide +kernel)
theorem gin_6 : ∀ w ∈ u_ws RX7 TX7 41, w ∈ gT := gT_sub [740, 742, 744, 746, 748, 750, 752, 754, 756, 758, 760, 762, 764, 766, 768, 770, 772, 774, 776, 778, 780, 782, 784, 786, 788, 790, 792, 794, 796, 798, 800, 802, 804, 806, 808, 810, 812, 814, 816, 818, 820] (by decide +kernel) (by decide +kernel)
theorem gcl_ok {x : Nat} {C : String} {T : u_T} {N : Nat} (h : vwCl[x]? = some (C, T, N)) : (∀ w ∈ u_ws C T N, w ∈ gT) ∧ (∀ k, k < N → parseFieldDescriptor (T k).2.2.1 = some (cty x k)) ∧ (∀ a, a < N → ∀ b, b < N → a ≠ b → (T a).2.1 ≠ (T b).2.1) := by
  match x, h with
  | 0, h => cases h; exact ⟨gin_0, tyX0_ok, nmX0⟩
  | 1, h => cases h; exact ⟨gin_1, tyX1_ok, nmX1⟩
  | 2, h => cases h; exact ⟨gin_2, tyX2_ok, nmX2⟩
  | 3, h => cases h; exact ⟨gin_3, tyX3_ok, nmX3⟩
  | 4, h => cases h; exact ⟨gin_4, tyX5_ok, nmX5⟩
  | 5, h => cases h; exact ⟨gin_5, tyX6_ok, nmX6⟩
  | 6, h => cases h; exact ⟨gin_6, tyX7_ok, nmX7⟩
  | x + 7, h => simp [vwCl] at h
