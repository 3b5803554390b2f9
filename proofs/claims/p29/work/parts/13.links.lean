theorem fX8_9 : xFl RX8 9 8 8 RX8 TX8 10 tyX8 := ⟨clX8, by decide, xin1 232 (by decide +kernel) rfl⟩
theorem fX8_13 : xFl RX8 13 8 9 RX8 TX8 10 tyX8 := ⟨clX8, by decide, xin1 233 (by decide +kernel) rfl⟩
theorem fX8_20 : xFl RX8 20 8 0 RX8 TX8 10 tyX8 := ⟨clX8, by decide, xin1 224 (by decide +kernel) rfl⟩
theorem fX8_26 : xFl RX8 26 8 1 RX8 TX8 10 tyX8 := ⟨clX8, by decide, xin1 225 (by decide +kernel) rfl⟩
theorem fX8_34 : xFl RX8 34 8 2 RX8 TX8 10 tyX8 := ⟨clX8, by decide, xin1 226 (by decide +kernel) rfl⟩
theorem fX8_38 : xFl RX8 38 8 3 RX8 TX8 10 tyX8 := ⟨clX8, by decide, xin1 227 (by decide +kernel) rfl⟩
theorem fX8_44 : xFl RX8 44 8 4 RX8 TX8 10 tyX8 := ⟨clX8, by decide, xin1 228 (by decide +kernel) rfl⟩
theorem fX8_51 : xFl RX8 51 8 5 RX8 TX8 10 tyX8 := ⟨clX8, by decide, xin1 229 (by decide +kernel) rfl⟩
theorem fX8_58 : xFl RX8 58 8 6 RX8 TX8 10 tyX8 := ⟨clX8, by decide, xin1 230 (by decide +kernel) rfl⟩
theorem fX8_62 : xFl RX8 62 8 7 RX8 TX8 10 tyX8 := ⟨clX8, by decide, xin1 231 (by decide +kernel) rfl⟩
theorem fX8_78 : xFl RX8 78 1 1 RX1 TX1 14 tyX1 := ⟨clX1, by decide, xin1 29 (by decide +kernel) rfl⟩
theorem fX8_91 : xFl RX8 91 1 3 RX1 TX1 14 tyX1 := ⟨clX1, by decide, xin1 34 (by decide +kernel) rfl⟩
theorem fX8_113 : xFl RX8 113 1 10 RX1 TX1 14 tyX1 := ⟨clX1, by decide, xin1 42 (by decide +kernel) rfl⟩
theorem fX8_128 : xFl RX8 128 4 2 RX4 TX4 5 tyX4 := ⟨clX4, by decide, xin1 93 (by decide +kernel) rfl⟩
theorem fX8_131 : xFl RX8 131 4 0 RX4 TX4 5 tyX4 := ⟨clX4, by decide, xin1 87 (by decide +kernel) rfl⟩
theorem fX8_134 : xFl RX8 134 4 3 RX4 TX4 5 tyX4 := ⟨clX4, by decide, xin1 96 (by decide +kernel) rfl⟩
theorem fX8_137 : xFl RX8 137 4 1 RX4 TX4 5 tyX4 := ⟨clX4, by decide, xin1 90 (by decide +kernel) rfl⟩
theorem fX8_148 : xFl RX8 148 1 2 RX1 TX1 14 tyX1 := ⟨clX1, by decide, xin1 31 (by decide +kernel) rfl⟩
theorem fX8_160 : xFl RX8 160 5 7 RX5 TX5 9 tyX5 := ⟨clX5, by decide, xin1 132 (by decide +kernel) rfl⟩
theorem fX8_165 : xFl RX8 165 5 5 RX5 TX5 9 tyX5 := ⟨clX5, by decide, xin1 127 (by decide +kernel) rfl⟩
theorem fX8_169 : xFl RX8 169 5 4 RX5 TX5 9 tyX5 := ⟨clX5, by decide, xin1 125 (by decide +kernel) rfl⟩
theorem fX8_187 : xFl RX8 187 2 2 RX2 TX2 5 tyX2 := ⟨clX2, by decide, xin1 163 (by decide +kernel) rfl⟩
theorem fX8_190 : xFl RX8 190 2 3 RX2 TX2 5 tyX2 := ⟨clX2, by decide, xin1 165 (by decide +kernel) rfl⟩
theorem fX8_193 : xFl RX8 193 2 4 RX2 TX2 5 tyX2 := ⟨clX2, by decide, xin1 167 (by decide +kernel) rfl⟩
theorem fX8_204 : xFl RX8 204 6 4 RX6 TX6 5 tyX6 := ⟨clX6, by decide, xin1 195 (by decide +kernel) rfl⟩
theorem fX8_215 : xFl RX8 215 7 11 RX7 TX7 14 tyX7 := ⟨clX7, by decide, xin3 111 (by decide +kernel) rfl⟩
theorem fX8_218 : xFl RX8 218 7 9 RX7 TX7 14 tyX7 := ⟨clX7, by decide, xin3 107 (by decide +kernel) rfl⟩
theorem fX8_221 : xFl RX8 221 7 8 RX7 TX7 14 tyX7 := ⟨clX7, by decide, xin3 105 (by decide +kernel) rfl⟩
theorem fX8_224 : xFl RX8 224 7 10 RX7 TX7 14 tyX7 := ⟨clX7, by decide, xin3 109 (by decide +kernel) rfl⟩
theorem fX8_240 : xFl RX8 240 0 2 RX0 TX0 3 tyX0 := ⟨clX0, by decide, xin1 216 (by decide +kernel) rfl⟩
theorem fX8_243 : xFl RX8 243 5 8 RX5 TX5 9 tyX5 := ⟨clX5, by decide, xin1 134 (by decide +kernel) rfl⟩
theorem fX8_256 : xFl RX8 256 4 4 RX4 TX4 5 tyX4 := ⟨clX4, by decide, xin1 98 (by decide +kernel) rfl⟩
theorem fX8_259 : xFl RX8 259 1 13 RX1 TX1 14 tyX1 := ⟨clX1, by decide, xin1 46 (by decide +kernel) rfl⟩
theorem fX0_9 : xFl RX0 9 0 0 RX0 TX0 3 tyX0 := ⟨clX0, by decide, xin1 213 (by decide +kernel) rfl⟩
theorem fX0_15 : xFl RX0 15 0 1 RX0 TX0 3 tyX0 := ⟨clX0, by decide, xin1 214 (by decide +kernel) rfl⟩
theorem fX0_18 : xFl RX0 18 0 2 RX0 TX0 3 tyX0 := ⟨clX0, by decide, xin1 215 (by decide +kernel) rfl⟩
theorem fX1_9 : xFl RX1 9 1 0 RX1 TX1 14 tyX1 := ⟨clX1, by decide, xin1 27 (by decide +kernel) rfl⟩
theorem fX1_15 : xFl RX1 15 1 1 RX1 TX1 14 tyX1 := ⟨clX1, by decide, xin1 28 (by decide +kernel) rfl⟩
theorem fX1_18 : xFl RX1 18 1 2 RX1 TX1 14 tyX1 := ⟨clX1, by decide, xin1 30 (by decide +kernel) rfl⟩
theorem fX1_21 : xFl RX1 21 1 3 RX1 TX1 14 tyX1 := ⟨clX1, by decide, xin1 32 (by decide +kernel) rfl⟩
theorem fX1_24 : xFl RX1 24 1 4 RX1 TX1 14 tyX1 := ⟨clX1, by decide, xin1 35 (by decide +kernel) rfl⟩
theorem fX1_27 : xFl RX1 27 1 5 RX1 TX1 14 tyX1 := ⟨clX1, by decide, xin1 36 (by decide +kernel) rfl⟩
theorem fX1_30 : xFl RX1 30 1 6 RX1 TX1 14 tyX1 := ⟨clX1, by decide, xin1 37 (by decide +kernel) rfl⟩
theorem fX1_33 : xFl RX1 33 1 7 RX1 TX1 14 tyX1 := ⟨clX1, by decide, xin1 38 (by decide +kernel) rfl⟩
theorem fX1_36 : xFl RX1 36 1 8 RX1 TX1 14 tyX1 := ⟨clX1, by decide, xin1 39 (by decide +kernel) rfl⟩
theorem fX1_39 : xFl RX1 39 1 9 RX1 TX1 14 tyX1 := ⟨clX1, by decide, xin1 40 (by decide +kernel) rfl⟩
theorem fX1_43 : xFl RX1 43 1 10 RX1 TX1 14 tyX1 := ⟨clX1, by decide, xin1 41 (by decide +kernel) rfl⟩
theorem fX1_47 : xFl RX1 47 1 11 RX1 TX1 14 tyX1 := ⟨clX1, by decide, xin1 43 (by decide +kernel) rfl⟩
theorem fX1_50 : xFl RX1 50 1 12 RX1 TX1 14 tyX1 := ⟨clX1, by decide, xin1 44 (by decide +kernel) rfl⟩
theorem fX1_53 : xFl RX1 53 1 13 RX1 TX1 14 tyX1 := ⟨clX1, by decide, xin1 45 (by decide +kernel) rfl⟩
theorem fX2_9 : xFl RX2 9 2 0 RX2 TX2 5 tyX2 := ⟨clX2, by decide, xin1 160 (by decide +kernel) rfl⟩
theorem fX2_15 : xFl RX2 15 2 1 RX2 TX2 5 tyX2 := ⟨clX2, by decide, xin1 161 (by decide +kernel) rfl⟩
theorem fX2_19 : xFl RX2 19 2 2 RX2 TX2 5 tyX2 := ⟨clX2, by decide, xin1 162 (by decide +kernel) rfl⟩
theorem fX2_22 : xFl RX2 22 2 3 RX2 TX2 5 tyX2 := ⟨clX2, by decide, xin1 164 (by decide +kernel) rfl⟩
theorem fX2_25 : xFl RX2 25 2 4 RX2 TX2 5 tyX2 := ⟨clX2, by decide, xin1 166 (by decide +kernel) rfl⟩
theorem fX2_29 : xFl RX2 29 5 7 RX5 TX5 9 tyX5 := ⟨clX5, by decide, xin1 131 (by decide +kernel) rfl⟩
theorem fX2_34 : xFl RX2 34 5 6 RX5 TX5 9 tyX5 := ⟨clX5, by decide, xin1 129 (by decide +kernel) rfl⟩
theorem fX2_37 : xFl RX2 37 5 2 RX5 TX5 9 tyX5 := ⟨clX5, by decide, xin1 121 (by decide +kernel) rfl⟩
theorem fX2_44 : xFl RX2 44 5 3 RX5 TX5 9 tyX5 := ⟨clX5, by decide, xin1 123 (by decide +kernel) rfl⟩
theorem fX2_47 : xFl RX2 47 5 1 RX5 TX5 9 tyX5 := ⟨clX5, by decide, xin1 119 (by decide +kernel) rfl⟩
theorem fX3_9 : xFl RX3 9 3 0 RX3 TX3 7 tyX3 := ⟨clX3, by decide, xin2 130 (by decide +kernel) rfl⟩
theorem fX3_15 : xFl RX3 15 3 1 RX3 TX3 7 tyX3 := ⟨clX3, by decide, xin2 131 (by decide +kernel) rfl⟩
theorem fX3_18 : xFl RX3 18 3 2 RX3 TX3 7 tyX3 := ⟨clX3, by decide, xin2 132 (by decide +kernel) rfl⟩
theorem fX3_21 : xFl RX3 21 3 3 RX3 TX3 7 tyX3 := ⟨clX3, by decide, xin2 133 (by decide +kernel) rfl⟩
theorem fX3_24 : xFl RX3 24 3 4 RX3 TX3 7 tyX3 := ⟨clX3, by decide, xin2 134 (by decide +kernel) rfl⟩
theorem fX3_27 : xFl RX3 27 3 5 RX3 TX3 7 tyX3 := ⟨clX3, by decide, xin2 135 (by decide +kernel) rfl⟩
theorem fX3_31 : xFl RX3 31 3 6 RX3 TX3 7 tyX3 := ⟨clX3, by decide, xin2 136 (by decide +kernel) rfl⟩
theorem fX3_34 : xFl RX3 34 1 3 RX1 TX1 14 tyX1 := ⟨clX1, by decide, xin1 33 (by decide +kernel) rfl⟩
theorem fX3_46 : xFl RX3 46 4 2 RX4 TX4 5 tyX4 := ⟨clX4, by decide, xin1 92 (by decide +kernel) rfl⟩
theorem fX3_80 : xFl RX3 80 4 0 RX4 TX4 5 tyX4 := ⟨clX4, by decide, xin1 86 (by decide +kernel) rfl⟩
theorem fX3_86 : xFl RX3 86 4 1 RX4 TX4 5 tyX4 := ⟨clX4, by decide, xin1 89 (by decide +kernel) rfl⟩
theorem fX3_93 : xFl RX3 93 4 3 RX4 TX4 5 tyX4 := ⟨clX4, by decide, xin1 95 (by decide +kernel) rfl⟩
theorem fX4_9 : xFl RX4 9 4 0 RX4 TX4 5 tyX4 := ⟨clX4, by decide, xin1 85 (by decide +kernel) rfl⟩
theorem fX4_15 : xFl RX4 15 4 1 RX4 TX4 5 tyX4 := ⟨clX4, by decide, xin1 88 (by decide +kernel) rfl⟩
theorem fX4_19 : xFl RX4 19 4 2 RX4 TX4 5 tyX4 := ⟨clX4, by decide, xin1 91 (by decide +kernel) rfl⟩
theorem fX4_23 : xFl RX4 23 4 3 RX4 TX4 5 tyX4 := ⟨clX4, by decide, xin1 94 (by decide +kernel) rfl⟩
theorem fX4_26 : xFl RX4 26 4 4 RX4 TX4 5 tyX4 := ⟨clX4, by decide, xin1 97 (by decide +kernel) rfl⟩
theorem fX5_9 : xFl RX5 9 5 0 RX5 TX5 9 tyX5 := ⟨clX5, by decide, xin1 117 (by decide +kernel) rfl⟩
theorem fX5_15 : xFl RX5 15 5 1 RX5 TX5 9 tyX5 := ⟨clX5, by decide, xin1 118 (by decide +kernel) rfl⟩
theorem fX5_18 : xFl RX5 18 5 2 RX5 TX5 9 tyX5 := ⟨clX5, by decide, xin1 120 (by decide +kernel) rfl⟩
theorem fX5_21 : xFl RX5 21 5 3 RX5 TX5 9 tyX5 := ⟨clX5, by decide, xin1 122 (by decide +kernel) rfl⟩
theorem fX5_24 : xFl RX5 24 5 4 RX5 TX5 9 tyX5 := ⟨clX5, by decide, xin1 124 (by decide +kernel) rfl⟩
theorem fX5_27 : xFl RX5 27 5 5 RX5 TX5 9 tyX5 := ⟨clX5, by decide, xin1 126 (by decide +kernel) rfl⟩
theorem fX5_30 : xFl RX5 30 5 6 RX5 TX5 9 tyX5 := ⟨clX5, by decide, xin1 128 (by decide +kernel) rfl⟩
theorem fX5_33 : xFl RX5 33 5 7 RX5 TX5 9 tyX5 := ⟨clX5, by decide, xin1 130 (by decide +kernel) rfl⟩
theorem fX5_37 : xFl RX5 37 5 8 RX5 TX5 9 tyX5 := ⟨clX5, by decide, xin1 133 (by decide +kernel) rfl⟩
theorem fX6_9 : xFl RX6 9 6 0 RX6 TX6 5 tyX6 := ⟨clX6, by decide, xin1 185 (by decide +kernel) rfl⟩
theorem fX6_15 : xFl RX6 15 6 1 RX6 TX6 5 tyX6 := ⟨clX6, by decide, xin1 187 (by decide +kernel) rfl⟩
theorem fX6_18 : xFl RX6 18 6 2 RX6 TX6 5 tyX6 := ⟨clX6, by decide, xin1 189 (by decide +kernel) rfl⟩
theorem fX6_21 : xFl RX6 21 6 3 RX6 TX6 5 tyX6 := ⟨clX6, by decide, xin1 191 (by decide +kernel) rfl⟩
theorem fX6_24 : xFl RX6 24 6 4 RX6 TX6 5 tyX6 := ⟨clX6, by decide, xin1 193 (by decide +kernel) rfl⟩
theorem fX7_9 : xFl RX7 9 7 0 RX7 TX7 14 tyX7 := ⟨clX7, by decide, xin3 96 (by decide +kernel) rfl⟩
theorem fX7_15 : xFl RX7 15 7 1 RX7 TX7 14 tyX7 := ⟨clX7, by decide, xin3 97 (by decide +kernel) rfl⟩
theorem fX7_18 : xFl RX7 18 7 2 RX7 TX7 14 tyX7 := ⟨clX7, by decide, xin3 98 (by decide +kernel) rfl⟩
theorem fX7_21 : xFl RX7 21 7 3 RX7 TX7 14 tyX7 := ⟨clX7, by decide, xin3 99 (by decide +kernel) rfl⟩
theorem fX7_24 : xFl RX7 24 7 4 RX7 TX7 14 tyX7 := ⟨clX7, by decide, xin3 100 (by decide +kernel) rfl⟩
theorem fX7_27 : xFl RX7 27 7 5 RX7 TX7 14 tyX7 := ⟨clX7, by decide, xin3 101 (by decide +kernel) rfl⟩
theorem fX7_30 : xFl RX7 30 7 6 RX7 TX7 14 tyX7 := ⟨clX7, by decide, xin3 102 (by decide +kernel) rfl⟩
theorem fX7_33 : xFl RX7 33 7 7 RX7 TX7 14 tyX7 := ⟨clX7, by decide, xin3 103 (by decide +kernel) rfl⟩
theorem fX7_36 : xFl RX7 36 7 8 RX7 TX7 14 tyX7 := ⟨clX7, by decide, xin3 104 (by decide +kernel) rfl⟩
theorem fX7_39 : xFl RX7 39 7 9 RX7 TX7 14 tyX7 := ⟨clX7, by decide, xin3 106 (by decide +kernel) rfl⟩
theorem fX7_43 : xFl RX7 43 7 10 RX7 TX7 14 tyX7 := ⟨clX7, by decide, xin3 108 (by decide +kernel) rfl⟩
theorem fX7_46 : xFl RX7 46 7 11 RX7 TX7 14 tyX7 := ⟨clX7, by decide, xin3 110 (by decide +kernel) rfl⟩
theorem fX7_49 : xFl RX7 49 7 12 RX7 TX7 14 tyX7 := ⟨clX7, by decide, xin3 112 (by decide +kernel) rfl⟩
theorem fX7_52 : xFl RX7 52 7 13 RX7 TX7 14 tyX7 := ⟨clX7, by decide, xin3 113 (by decide +kernel) rfl⟩
theorem fX7_55 : xFl RX7 55 6 4 RX6 TX6 5 tyX6 := ⟨clX6, by decide, xin1 194 (by decide +kernel) rfl⟩
theorem fX7_67 : xFl RX7 67 6 1 RX6 TX6 5 tyX6 := ⟨clX6, by decide, xin1 188 (by decide +kernel) rfl⟩
theorem fX7_70 : xFl RX7 70 6 2 RX6 TX6 5 tyX6 := ⟨clX6, by decide, xin1 190 (by decide +kernel) rfl⟩
theorem fX7_73 : xFl RX7 73 6 3 RX6 TX6 5 tyX6 := ⟨clX6, by decide, xin1 192 (by decide +kernel) rfl⟩
theorem fX7_76 : xFl RX7 76 6 0 RX6 TX6 5 tyX6 := ⟨clX6, by decide, xin1 186 (by decide +kernel) rfl⟩
theorem fX9_7 : xFl RX9 7 9 0 RX9 TX9 46 tyX9 := ⟨clX9, by decide, xin3 236 (by decide +kernel) rfl⟩
theorem fX9_13 : xFl RX9 13 9 1 RX9 TX9 46 tyX9 := ⟨clX9, by decide, xin3 237 (by decide +kernel) rfl⟩
theorem fX9_16 : xFl RX9 16 9 2 RX9 TX9 46 tyX9 := ⟨clX9, by decide, xin3 238 (by decide +kernel) rfl⟩
theorem fX9_19 : xFl RX9 19 9 3 RX9 TX9 46 tyX9 := ⟨clX9, by decide, xin3 239 (by decide +kernel) rfl⟩
theorem fX9_22 : xFl RX9 22 9 4 RX9 TX9 46 tyX9 := ⟨clX9, by decide, xin4 0 (by decide +kernel) rfl⟩
theorem fX9_25 : xFl RX9 25 9 5 RX9 TX9 46 tyX9 := ⟨clX9, by decide, xin4 1 (by decide +kernel) rfl⟩
theorem fX9_28 : xFl RX9 28 9 6 RX9 TX9 46 tyX9 := ⟨clX9, by decide, xin4 2 (by decide +kernel) rfl⟩
theorem fX9_31 : xFl RX9 31 9 7 RX9 TX9 46 tyX9 := ⟨clX9, by decide, xin4 3 (by decide +kernel) rfl⟩
theorem fX9_34 : xFl RX9 34 9 8 RX9 TX9 46 tyX9 := ⟨clX9, by decide, xin4 4 (by decide +kernel) rfl⟩
theorem fX9_37 : xFl RX9 37 9 9 RX9 TX9 46 tyX9 := ⟨clX9, by decide, xin4 5 (by decide +kernel) rfl⟩
theorem fX9_40 : xFl RX9 40 9 10 RX9 TX9 46 tyX9 := ⟨clX9, by decide, xin4 6 (by decide +kernel) rfl⟩
theorem fX9_44 : xFl RX9 44 9 11 RX9 TX9 46 tyX9 := ⟨clX9, by decide, xin4 7 (by decide +kernel) rfl⟩
theorem fX9_47 : xFl RX9 47 9 13 RX9 TX9 46 tyX9 := ⟨clX9, by decide, xin4 9 (by decide +kernel) rfl⟩
theorem fX9_50 : xFl RX9 50 9 14 RX9 TX9 46 tyX9 := ⟨clX9, by decide, xin4 10 (by decide +kernel) rfl⟩
theorem fX9_53 : xFl RX9 53 9 15 RX9 TX9 46 tyX9 := ⟨clX9, by decide, xin4 11 (by decide +kernel) rfl⟩
theorem fX9_56 : xFl RX9 56 9 16 RX9 TX9 46 tyX9 := ⟨clX9, by decide, xin4 12 (by decide +kernel) rfl⟩
theorem fX9_59 : xFl RX9 59 9 19 RX9 TX9 46 tyX9 := ⟨clX9, by decide, xin4 15 (by decide +kernel) rfl⟩
theorem fX9_62 : xFl RX9 62 9 20 RX9 TX9 46 tyX9 := ⟨clX9, by decide, xin4 16 (by decide +kernel) rfl⟩
theorem fX9_65 : xFl RX9 65 9 21 RX9 TX9 46 tyX9 := ⟨clX9, by decide, xin4 17 (by decide +kernel) rfl⟩
theorem fX9_68 : xFl RX9 68 9 22 RX9 TX9 46 tyX9 := ⟨clX9, by decide, xin4 18 (by decide +kernel) rfl⟩
theorem fX9_71 : xFl RX9 71 9 23 RX9 TX9 46 tyX9 := ⟨clX9, by decide, xin4 19 (by decide +kernel) rfl⟩
theorem fX9_74 : xFl RX9 74 9 24 RX9 TX9 46 tyX9 := ⟨clX9, by decide, xin4 20 (by decide +kernel) rfl⟩
theorem fX9_77 : xFl RX9 77 9 25 RX9 TX9 46 tyX9 := ⟨clX9, by decide, xin4 21 (by decide +kernel) rfl⟩
theorem fX9_80 : xFl RX9 80 9 26 RX9 TX9 46 tyX9 := ⟨clX9, by decide, xin4 22 (by decide +kernel) rfl⟩
theorem fX9_83 : xFl RX9 83 9 27 RX9 TX9 46 tyX9 := ⟨clX9, by decide, xin4 23 (by decide +kernel) rfl⟩
theorem fX9_86 : xFl RX9 86 9 28 RX9 TX9 46 tyX9 := ⟨clX9, by decide, xin4 24 (by decide +kernel) rfl⟩
theorem fX9_89 : xFl RX9 89 9 29 RX9 TX9 46 tyX9 := ⟨clX9, by decide, xin4 25 (by decide +kernel) rfl⟩
theorem fX9_92 : xFl RX9 92 9 30 RX9 TX9 46 tyX9 := ⟨clX9, by decide, xin4 26 (by decide +kernel) rfl⟩
theorem fX9_95 : xFl RX9 95 9 31 RX9 TX9 46 tyX9 := ⟨clX9, by decide, xin4 27 (by decide +kernel) rfl⟩
theorem fX9_98 : xFl RX9 98 9 36 RX9 TX9 46 tyX9 := ⟨clX9, by decide, xin4 32 (by decide +kernel) rfl⟩
theorem fX9_101 : xFl RX9 101 9 37 RX9 TX9 46 tyX9 := ⟨clX9, by decide, xin4 33 (by decide +kernel) rfl⟩
theorem fX9_104 : xFl RX9 104 9 38 RX9 TX9 46 tyX9 := ⟨clX9, by decide, xin4 34 (by decide +kernel) rfl⟩
theorem fX9_107 : xFl RX9 107 9 39 RX9 TX9 46 tyX9 := ⟨clX9, by decide, xin4 35 (by decide +kernel) rfl⟩
theorem fX9_110 : xFl RX9 110 9 40 RX9 TX9 46 tyX9 := ⟨clX9, by decide, xin4 36 (by decide +kernel) rfl⟩
theorem fX9_113 : xFl RX9 113 9 41 RX9 TX9 46 tyX9 := ⟨clX9, by decide, xin4 37 (by decide +kernel) rfl⟩
theorem fX9_116 : xFl RX9 116 9 42 RX9 TX9 46 tyX9 := ⟨clX9, by decide, xin4 38 (by decide +kernel) rfl⟩
theorem fX9_119 : xFl RX9 119 9 44 RX9 TX9 46 tyX9 := ⟨clX9, by decide, xin4 40 (by decide +kernel) rfl⟩
theorem fX9_122 : xFl RX9 122 9 45 RX9 TX9 46 tyX9 := ⟨clX9, by decide, xin4 41 (by decide +kernel) rfl⟩
theorem fX9_142 : xFl RX9 142 9 12 RX9 TX9 46 tyX9 := ⟨clX9, by decide, xin4 8 (by decide +kernel) rfl⟩
theorem fX9_198 : xFl RX9 198 9 17 RX9 TX9 46 tyX9 := ⟨clX9, by decide, xin4 13 (by decide +kernel) rfl⟩
theorem fX9_202 : xFl RX9 202 9 18 RX9 TX9 46 tyX9 := ⟨clX9, by decide, xin4 14 (by decide +kernel) rfl⟩
theorem fX9_211 : xFl RX9 211 9 32 RX9 TX9 46 tyX9 := ⟨clX9, by decide, xin4 28 (by decide +kernel) rfl⟩
theorem fX9_214 : xFl RX9 214 9 33 RX9 TX9 46 tyX9 := ⟨clX9, by decide, xin4 29 (by decide +kernel) rfl⟩
theorem fX9_217 : xFl RX9 217 9 34 RX9 TX9 46 tyX9 := ⟨clX9, by decide, xin4 30 (by decide +kernel) rfl⟩
theorem fX9_227 : xFl RX9 227 9 35 RX9 TX9 46 tyX9 := ⟨clX9, by decide, xin4 31 (by decide +kernel) rfl⟩
theorem fX9_233 : xFl RX9 233 9 43 RX9 TX9 46 tyX9 := ⟨clX9, by decide, xin4 39 (by decide +kernel) rfl⟩
theorem nX8_17 : xNw RX8 17 1 RX1 TX1 14 tyX1 := ⟨clX1, xin1 21 (by decide +kernel) rfl, xin1 22 (by decide +kernel) rfl, xin1 2 (by decide +kernel) rfl⟩
theorem nlX8_17 : Cond.classLink RX8 17 RX1 ∈ xT := xin1 21 (by decide +kernel) rfl
theorem nX8_24 : xNw RX8 24 4 RX4 TX4 5 tyX4 := ⟨clX4, xin1 78 (by decide +kernel) rfl, xin1 80 (by decide +kernel) rfl, xin1 3 (by decide +kernel) rfl⟩
theorem nlX8_24 : Cond.classLink RX8 24 RX4 ∈ xT := xin1 78 (by decide +kernel) rfl
theorem nX8_31 : xNw RX8 31 5 RX5 TX5 9 tyX5 := ⟨clX5, xin1 111 (by decide +kernel) rfl, xin1 112 (by decide +kernel) rfl, xin1 4 (by decide +kernel) rfl⟩
theorem nlX8_31 : Cond.classLink RX8 31 RX5 ∈ xT := xin1 111 (by decide +kernel) rfl
theorem nX8_41 : xNw RX8 41 2 RX2 TX2 5 tyX2 := ⟨clX2, xin1 154 (by decide +kernel) rfl, xin1 155 (by decide +kernel) rfl, xin1 5 (by decide +kernel) rfl⟩
theorem nlX8_41 : Cond.classLink RX8 41 RX2 ∈ xT := xin1 154 (by decide +kernel) rfl
theorem nX8_48 : xNw RX8 48 6 RX6 TX6 5 tyX6 := ⟨clX6, xin1 179 (by decide +kernel) rfl, xin1 180 (by decide +kernel) rfl, xin1 6 (by decide +kernel) rfl⟩
theorem nlX8_48 : Cond.classLink RX8 48 RX6 ∈ xT := xin1 179 (by decide +kernel) rfl
theorem nX8_55 : xNw RX8 55 0 RX0 TX0 3 tyX0 := ⟨clX0, xin1 207 (by decide +kernel) rfl, xin1 208 (by decide +kernel) rfl, xin1 7 (by decide +kernel) rfl⟩
theorem nlX8_55 : Cond.classLink RX8 55 RX0 ∈ xT := xin1 207 (by decide +kernel) rfl
theorem nX8_216 : xNw RX8 216 7 RX7 TX7 14 tyX7 := ⟨clX7, xin3 90 (by decide +kernel) rfl, xin3 91 (by decide +kernel) rfl, xin1 12 (by decide +kernel) rfl⟩
theorem nlX8_216 : Cond.classLink RX8 216 RX7 ∈ xT := xin3 90 (by decide +kernel) rfl
theorem nX8_260 : xNw RX8 260 3 RX3 TX3 7 tyX3 := ⟨clX3, xin2 124 (by decide +kernel) rfl, xin2 125 (by decide +kernel) rfl, xin1 11 (by decide +kernel) rfl⟩
theorem nlX8_260 : Cond.classLink RX8 260 RX3 ∈ xT := xin2 124 (by decide +kernel) rfl
theorem nL_7 : xNw RL 7 8 RX8 TX8 10 tyX8 := ⟨clX8, xin1 13 (by decide +kernel) rfl, xin1 14 (by decide +kernel) rfl, xin1 1 (by decide +kernel) rfl⟩
theorem nlL_7 : Cond.classLink RL 7 RX8 ∈ xT := xin1 13 (by decide +kernel) rfl
theorem nL_10 : xNw RL 10 9 RX9 TX9 46 tyX9 := ⟨clX9, xin3 230 (by decide +kernel) rfl, xin3 231 (by decide +kernel) rfl, xin1 8 (by decide +kernel) rfl⟩
theorem nlL_10 : Cond.classLink RL 10 RX9 ∈ xT := xin3 230 (by decide +kernel) rfl
theorem kX8_168 : Cond.constant RX8 168 (80001) ∈ xT := xin3 15 (by decide +kernel) rfl
theorem kX8_172 : Cond.constant RX8 172 (80000) ∈ xT := xin3 1 (by decide +kernel) rfl
theorem kX3_99 : Cond.constant RX3 99 (1000000) ∈ xT := xin2 191 (by decide +kernel) rfl
theorem kX5_40 : Cond.constant RX5 40 (80001) ∈ xT := xin3 6 (by decide +kernel) rfl
theorem kX9_141 : Cond.constant RX9 141 (1048576) ∈ xT := xin4 165 (by decide +kernel) rfl
theorem kX9_173 : Cond.constant RX9 173 (1000000) ∈ xT := xin4 222 (by decide +kernel) rfl
theorem kX9_194 : Cond.constant RX9 194 (80000) ∈ xT := xin5 15 (by decide +kernel) rfl
theorem kX9_201 : Cond.constant RX9 201 (1000000000) ∈ xT := xin5 16 (by decide +kernel) rfl
theorem kJ6_265 : Cond.constant RJ6 265 (1431655765) ∈ xT := xin2 110 (by decide +kernel) rfl
theorem kJ6_266 : Cond.constant RJ6 266 (858993459) ∈ xT := xin2 111 (by decide +kernel) rfl
theorem kJ6_267 : Cond.constant RJ6 267 (252645135) ∈ xT := xin2 112 (by decide +kernel) rfl
set_option maxRecDepth 20000 in
theorem mX8_init : xMd yX8_init cX8_init 2 none 0 := ⟨xin1 17 rfl rfl, xin1 1 (by decide +kernel) rfl, ⟨by decide +kernel, by decide +kernel, by decide +kernel⟩, by decide⟩
theorem vX8_init : yX8_init.name = "<init>" ∧ Cond.instanceMethod yX8_init ∈ xT := ⟨rfl, xin1 16 (by decide +kernel) rfl⟩
set_option maxRecDepth 20000 in
theorem mX1_init : xMd yX1_init cX1_init 2 none 0 := ⟨xin1 25 rfl rfl, xin1 2 (by decide +kernel) rfl, ⟨by decide +kernel, by decide +kernel, by decide +kernel⟩, by decide⟩
theorem vX1_init : yX1_init.name = "<init>" ∧ Cond.instanceMethod yX1_init ∈ xT := ⟨rfl, xin1 24 (by decide +kernel) rfl⟩
set_option maxRecDepth 20000 in
theorem mX4_init : xMd yX4_init cX4_init 1 none 0 := ⟨xin1 83 rfl rfl, xin1 3 (by decide +kernel) rfl, ⟨by decide +kernel, by decide +kernel, by decide +kernel⟩, by decide⟩
theorem vX4_init : yX4_init.name = "<init>" ∧ Cond.instanceMethod yX4_init ∈ xT := ⟨rfl, xin1 82 (by decide +kernel) rfl⟩
set_option maxRecDepth 20000 in
theorem mX5_init : xMd yX5_init cX5_init 1 none 0 := ⟨xin1 115 rfl rfl, xin1 4 (by decide +kernel) rfl, ⟨by decide +kernel, by decide +kernel, by decide +kernel⟩, by decide⟩
theorem vX5_init : yX5_init.name = "<init>" ∧ Cond.instanceMethod yX5_init ∈ xT := ⟨rfl, xin1 114 (by decide +kernel) rfl⟩
set_option maxRecDepth 20000 in
theorem mX2_init : xMd yX2_init cX2_init 1 none 0 := ⟨xin1 158 rfl rfl, xin1 5 (by decide +kernel) rfl, ⟨by decide +kernel, by decide +kernel, by decide +kernel⟩, by decide⟩
theorem vX2_init : yX2_init.name = "<init>" ∧ Cond.instanceMethod yX2_init ∈ xT := ⟨rfl, xin1 157 (by decide +kernel) rfl⟩
set_option maxRecDepth 20000 in
theorem mX6_init : xMd yX6_init cX6_init 1 none 0 := ⟨xin1 183 rfl rfl, xin1 6 (by decide +kernel) rfl, ⟨by decide +kernel, by decide +kernel, by decide +kernel⟩, by decide⟩
theorem vX6_init : yX6_init.name = "<init>" ∧ Cond.instanceMethod yX6_init ∈ xT := ⟨rfl, xin1 182 (by decide +kernel) rfl⟩
set_option maxRecDepth 20000 in
theorem mX0_init : xMd yX0_init cX0_init 1 none 0 := ⟨xin1 211 rfl rfl, xin1 7 (by decide +kernel) rfl, ⟨by decide +kernel, by decide +kernel, by decide +kernel⟩, by decide⟩
theorem vX0_init : yX0_init.name = "<init>" ∧ Cond.instanceMethod yX0_init ∈ xT := ⟨rfl, xin1 210 (by decide +kernel) rfl⟩
set_option maxRecDepth 20000 in
theorem mX8_means : xMd yX8_means cX8_means 3 (some .int) 2 := ⟨xin2 18 rfl rfl, xin1 1 (by decide +kernel) rfl, ⟨by decide +kernel, by decide +kernel, by decide +kernel⟩, by decide⟩
theorem vX8_means : Cond.instanceMethod yX8_means ∈ xT ∧ Cond.selects yX8_means.cls yX8_means yX8_means ∈ xT := ⟨xin2 16 (by decide +kernel) rfl, xin2 17 (by decide +kernel) rfl⟩
set_option maxRecDepth 20000 in
theorem mX8_isWord : xMd yX8_isWord cX8_isWord 1 (some .boolean) 1 := ⟨xin2 21 rfl rfl, xin1 1 (by decide +kernel) rfl, ⟨by decide +kernel, by decide +kernel, by decide +kernel⟩, by decide⟩
theorem sX8_isWord : Cond.static yX8_isWord ∈ xT := xin2 20 (by decide +kernel) rfl
set_option maxRecDepth 20000 in
theorem mX8_refuse : xMd yX8_refuse cX8_refuse 2 (some .int) 1 := ⟨xin2 25 rfl rfl, xin1 1 (by decide +kernel) rfl, ⟨by decide +kernel, by decide +kernel, by decide +kernel⟩, by decide⟩
theorem vX8_refuse : Cond.instanceMethod yX8_refuse ∈ xT ∧ Cond.selects yX8_refuse.cls yX8_refuse yX8_refuse ∈ xT := ⟨xin2 24 (by decide +kernel) rfl, xins 0 (by decide +kernel) rfl⟩
set_option maxRecDepth 20000 in
theorem mX1_tellMeaning : xMd yX1_tellMeaning cX1_tellMeaning 5 (some .int) 2 := ⟨xin2 29 rfl rfl, xin1 2 (by decide +kernel) rfl, ⟨by decide +kernel, by decide +kernel, by decide +kernel⟩, by decide⟩
theorem vX1_tellMeaning : Cond.instanceMethod yX1_tellMeaning ∈ xT ∧ Cond.selects yX1_tellMeaning.cls yX1_tellMeaning yX1_tellMeaning ∈ xT := ⟨xin2 27 (by decide +kernel) rfl, xin2 28 (by decide +kernel) rfl⟩
set_option maxRecDepth 20000 in
theorem mX1_sensesOf : xMd yX1_sensesOf cX1_sensesOf 4 (some .int) 1 := ⟨xin2 33 rfl rfl, xin1 2 (by decide +kernel) rfl, ⟨by decide +kernel, by decide +kernel, by decide +kernel⟩, by decide⟩
theorem vX1_sensesOf : Cond.instanceMethod yX1_sensesOf ∈ xT ∧ Cond.selects yX1_sensesOf.cls yX1_sensesOf yX1_sensesOf ∈ xT := ⟨xin2 32 (by decide +kernel) rfl, xins 1 (by decide +kernel) rfl⟩
set_option maxRecDepth 20000 in
theorem mX8_sense : xMd yX8_sense cX8_sense 2 (some .int) 1 := ⟨xin2 37 rfl rfl, xin1 1 (by decide +kernel) rfl, ⟨by decide +kernel, by decide +kernel, by decide +kernel⟩, by decide⟩
theorem vX8_sense : Cond.instanceMethod yX8_sense ∈ xT ∧ Cond.selects yX8_sense.cls yX8_sense yX8_sense ∈ xT := ⟨xin2 35 (by decide +kernel) rfl, xin2 36 (by decide +kernel) rfl⟩
set_option maxRecDepth 20000 in
theorem mX8_year : xMd yX8_year cX8_year 3 (some .int) 2 := ⟨xin2 41 rfl rfl, xin1 1 (by decide +kernel) rfl, ⟨by decide +kernel, by decide +kernel, by decide +kernel⟩, by decide⟩
theorem vX8_year : Cond.instanceMethod yX8_year ∈ xT ∧ Cond.selects yX8_year.cls yX8_year yX8_year ∈ xT := ⟨xin2 39 (by decide +kernel) rfl, xin2 40 (by decide +kernel) rfl⟩
set_option maxRecDepth 20000 in
theorem mX8_isCatalogue : xMd yX8_isCatalogue cX8_isCatalogue 1 (some .boolean) 1 := ⟨xin2 44 rfl rfl, xin1 1 (by decide +kernel) rfl, ⟨by decide +kernel, by decide +kernel, by decide +kernel⟩, by decide⟩
theorem sX8_isCatalogue : Cond.static yX8_isCatalogue ∈ xT := xin2 43 (by decide +kernel) rfl
set_option maxRecDepth 20000 in
theorem mX1_tellYear : xMd yX1_tellYear cX1_tellYear 4 (some .int) 2 := ⟨xin2 48 rfl rfl, xin1 2 (by decide +kernel) rfl, ⟨by decide +kernel, by decide +kernel, by decide +kernel⟩, by decide⟩
theorem vX1_tellYear : Cond.instanceMethod yX1_tellYear ∈ xT ∧ Cond.selects yX1_tellYear.cls yX1_tellYear yX1_tellYear ∈ xT := ⟨xin2 46 (by decide +kernel) rfl, xin2 47 (by decide +kernel) rfl⟩
set_option maxRecDepth 20000 in
theorem mX8_entry : xMd yX8_entry cX8_entry 6 (some .int) 5 := ⟨xin2 52 rfl rfl, xin1 1 (by decide +kernel) rfl, ⟨by decide +kernel, by decide +kernel, by decide +kernel⟩, by decide⟩
theorem vX8_entry : Cond.instanceMethod yX8_entry ∈ xT ∧ Cond.selects yX8_entry.cls yX8_entry yX8_entry ∈ xT := ⟨xin2 50 (by decide +kernel) rfl, xin2 51 (by decide +kernel) rfl⟩
set_option maxRecDepth 20000 in
theorem mX8_hasOtherBits : xMd yX8_hasOtherBits cX8_hasOtherBits 2 (some .boolean) 2 := ⟨xin2 55 rfl rfl, xin1 1 (by decide +kernel) rfl, ⟨by decide +kernel, by decide +kernel, by decide +kernel⟩, by decide⟩
theorem sX8_hasOtherBits : Cond.static yX8_hasOtherBits ∈ xT := xin2 54 (by decide +kernel) rfl
set_option maxRecDepth 20000 in
theorem mX1_addEntry : xMd yX1_addEntry cX1_addEntry 8 (some .int) 5 := ⟨xin2 59 rfl rfl, xin1 2 (by decide +kernel) rfl, ⟨by decide +kernel, by decide +kernel, by decide +kernel⟩, by decide⟩
theorem vX1_addEntry : Cond.instanceMethod yX1_addEntry ∈ xT ∧ Cond.selects yX1_addEntry.cls yX1_addEntry yX1_addEntry ∈ xT := ⟨xin2 57 (by decide +kernel) rfl, xin2 58 (by decide +kernel) rfl⟩
set_option maxRecDepth 20000 in
theorem mX8_set : xMd yX8_set cX8_set 3 (some .int) 2 := ⟨xin2 63 rfl rfl, xin1 1 (by decide +kernel) rfl, ⟨by decide +kernel, by decide +kernel, by decide +kernel⟩, by decide⟩
theorem vX8_set : Cond.instanceMethod yX8_set ∈ xT ∧ Cond.selects yX8_set.cls yX8_set yX8_set ∈ xT := ⟨xin2 61 (by decide +kernel) rfl, xin2 62 (by decide +kernel) rfl⟩
set_option maxRecDepth 20000 in
theorem mX1_tellSpare : xMd yX1_tellSpare cX1_tellSpare 3 (some .int) 1 := ⟨xin2 67 rfl rfl, xin1 2 (by decide +kernel) rfl, ⟨by decide +kernel, by decide +kernel, by decide +kernel⟩, by decide⟩
theorem vX1_tellSpare : Cond.instanceMethod yX1_tellSpare ∈ xT ∧ Cond.selects yX1_tellSpare.cls yX1_tellSpare yX1_tellSpare ∈ xT := ⟨xin2 65 (by decide +kernel) rfl, xin2 66 (by decide +kernel) rfl⟩
set_option maxRecDepth 20000 in
theorem mX1_tellFade : xMd yX1_tellFade cX1_tellFade 3 (some .int) 1 := ⟨xin2 71 rfl rfl, xin1 2 (by decide +kernel) rfl, ⟨by decide +kernel, by decide +kernel, by decide +kernel⟩, by decide⟩
theorem vX1_tellFade : Cond.instanceMethod yX1_tellFade ∈ xT ∧ Cond.selects yX1_tellFade.cls yX1_tellFade yX1_tellFade ∈ xT := ⟨xin2 69 (by decide +kernel) rfl, xin2 70 (by decide +kernel) rfl⟩
set_option maxRecDepth 20000 in
theorem mX8_bar : xMd yX8_bar cX8_bar 7 (some .int) 4 := ⟨xin2 75 rfl rfl, xin1 1 (by decide +kernel) rfl, ⟨by decide +kernel, by decide +kernel, by decide +kernel⟩, by decide⟩
theorem vX8_bar : Cond.instanceMethod yX8_bar ∈ xT ∧ Cond.selects yX8_bar.cls yX8_bar yX8_bar ∈ xT := ⟨xin2 73 (by decide +kernel) rfl, xin2 74 (by decide +kernel) rfl⟩
set_option maxRecDepth 20000 in
theorem mX8_areTwo : xMd yX8_areTwo cX8_areTwo 2 (some .boolean) 2 := ⟨xin2 78 rfl rfl, xin1 1 (by decide +kernel) rfl, ⟨by decide +kernel, by decide +kernel, by decide +kernel⟩, by decide⟩
theorem sX8_areTwo : Cond.static yX8_areTwo ∈ xT := xin2 77 (by decide +kernel) rfl
set_option maxRecDepth 20000 in
theorem mX8_isEntry : xMd yX8_isEntry cX8_isEntry 3 (some .boolean) 2 := ⟨xin2 82 rfl rfl, xin1 1 (by decide +kernel) rfl, ⟨by decide +kernel, by decide +kernel, by decide +kernel⟩, by decide⟩
theorem vX8_isEntry : Cond.instanceMethod yX8_isEntry ∈ xT ∧ Cond.selects yX8_isEntry.cls yX8_isEntry yX8_isEntry ∈ xT := ⟨xin2 81 (by decide +kernel) rfl, xins 2 (by decide +kernel) rfl⟩
set_option maxRecDepth 20000 in
theorem mX1_isBarTold : xMd yX1_isBarTold cX1_isBarTold 3 (some .boolean) 2 := ⟨xin2 86 rfl rfl, xin1 2 (by decide +kernel) rfl, ⟨by decide +kernel, by decide +kernel, by decide +kernel⟩, by decide⟩
theorem vX1_isBarTold : Cond.instanceMethod yX1_isBarTold ∈ xT ∧ Cond.selects yX1_isBarTold.cls yX1_isBarTold yX1_isBarTold ∈ xT := ⟨xin2 84 (by decide +kernel) rfl, xin2 85 (by decide +kernel) rfl⟩
set_option maxRecDepth 20000 in
theorem mX1_tellBar : xMd yX1_tellBar cX1_tellBar 3 none 2 := ⟨xin2 90 rfl rfl, xin1 2 (by decide +kernel) rfl, ⟨by decide +kernel, by decide +kernel, by decide +kernel⟩, by decide⟩
theorem vX1_tellBar : Cond.instanceMethod yX1_tellBar ∈ xT ∧ Cond.selects yX1_tellBar.cls yX1_tellBar yX1_tellBar ∈ xT := ⟨xin2 88 (by decide +kernel) rfl, xin2 89 (by decide +kernel) rfl⟩
set_option maxRecDepth 20000 in
theorem mX8_like : xMd yX8_like cX8_like 5 (some .int) 4 := ⟨xin2 94 rfl rfl, xin1 1 (by decide +kernel) rfl, ⟨by decide +kernel, by decide +kernel, by decide +kernel⟩, by decide⟩
theorem vX8_like : Cond.instanceMethod yX8_like ∈ xT ∧ Cond.selects yX8_like.cls yX8_like yX8_like ∈ xT := ⟨xin2 92 (by decide +kernel) rfl, xin2 93 (by decide +kernel) rfl⟩
set_option maxRecDepth 20000 in
theorem mX1_likeness : xMd yX1_likeness cX1_likeness 6 (some .int) 2 := ⟨xin2 98 rfl rfl, xin1 2 (by decide +kernel) rfl, ⟨by decide +kernel, by decide +kernel, by decide +kernel⟩, by decide⟩
theorem vX1_likeness : Cond.instanceMethod yX1_likeness ∈ xT ∧ Cond.selects yX1_likeness.cls yX1_likeness yX1_likeness ∈ xT := ⟨xin2 96 (by decide +kernel) rfl, xin2 97 (by decide +kernel) rfl⟩
set_option maxRecDepth 20000 in
theorem mJ9_abs_0f7a4 : xMd yJ9_abs_0f7a4 cJ9_abs_0f7a4 1 (some .int) 1 := ⟨xin2 101 rfl rfl, xin1 9 (by decide +kernel) rfl, ⟨by decide +kernel, by decide +kernel, by decide +kernel⟩, by decide⟩
theorem sJ9_abs_0f7a4 : Cond.static yJ9_abs_0f7a4 ∈ xT := xin2 100 (by decide +kernel) rfl
set_option maxRecDepth 20000 in
theorem mX1_fadesAsItMay : xMd yX1_fadesAsItMay cX1_fadesAsItMay 8 (some .boolean) 2 := ⟨xin2 106 rfl rfl, xin1 2 (by decide +kernel) rfl, ⟨by decide +kernel, by decide +kernel, by decide +kernel⟩, by decide⟩
theorem vX1_fadesAsItMay : Cond.instanceMethod yX1_fadesAsItMay ∈ xT ∧ Cond.selects yX1_fadesAsItMay.cls yX1_fadesAsItMay yX1_fadesAsItMay ∈ xT := ⟨xin2 105 (by decide +kernel) rfl, xins 3 (by decide +kernel) rfl⟩
set_option maxRecDepth 20000 in
theorem mJ6_bitCount_0f7a4 : xMd yJ6_bitCount_0f7a4 cJ6_bitCount_0f7a4 1 (some .int) 1 := ⟨xin2 109 rfl rfl, xin1 10 (by decide +kernel) rfl, ⟨by decide +kernel, by decide +kernel, by decide +kernel⟩, by decide⟩
theorem sJ6_bitCount_0f7a4 : Cond.static yJ6_bitCount_0f7a4 ∈ xT := xin2 108 (by decide +kernel) rfl
set_option maxRecDepth 20000 in
theorem mJ9_max_7cf53 : xMd yJ9_max_7cf53 cJ9_max_7cf53 2 (some .int) 2 := ⟨xin2 115 rfl rfl, xin1 9 (by decide +kernel) rfl, ⟨by decide +kernel, by decide +kernel, by decide +kernel⟩, by decide⟩
theorem sJ9_max_7cf53 : Cond.static yJ9_max_7cf53 ∈ xT := xin2 114 (by decide +kernel) rfl
set_option maxRecDepth 20000 in
theorem mX8_join : xMd yX8_join cX8_join 3 (some .int) 2 := ⟨xin2 119 rfl rfl, xin1 1 (by decide +kernel) rfl, ⟨by decide +kernel, by decide +kernel, by decide +kernel⟩, by decide⟩
theorem vX8_join : Cond.instanceMethod yX8_join ∈ xT ∧ Cond.selects yX8_join.cls yX8_join yX8_join ∈ xT := ⟨xin2 117 (by decide +kernel) rfl, xin2 118 (by decide +kernel) rfl⟩
set_option maxRecDepth 20000 in
theorem mX8_bestJoining : xMd yX8_bestJoining cX8_bestJoining 4 (some (.object RX4)) 2 := ⟨xin2 123 rfl rfl, xin1 1 (by decide +kernel) rfl, ⟨by decide +kernel, by decide +kernel, by decide +kernel⟩, by decide⟩
theorem vX8_bestJoining : Cond.instanceMethod yX8_bestJoining ∈ xT ∧ Cond.selects yX8_bestJoining.cls yX8_bestJoining yX8_bestJoining ∈ xT := ⟨xin2 122 (by decide +kernel) rfl, xins 4 (by decide +kernel) rfl⟩
set_option maxRecDepth 20000 in
theorem mX3_init : xMd yX3_init cX3_init 1 none 0 := ⟨xin2 128 rfl rfl, xin1 11 (by decide +kernel) rfl, ⟨by decide +kernel, by decide +kernel, by decide +kernel⟩, by decide⟩
theorem vX3_init : yX3_init.name = "<init>" ∧ Cond.instanceMethod yX3_init ∈ xT := ⟨rfl, xin2 127 (by decide +kernel) rfl⟩
set_option maxRecDepth 20000 in
theorem mX3_solve : xMd yX3_solve cX3_solve 5 none 4 := ⟨xin2 155 rfl rfl, xin1 11 (by decide +kernel) rfl, ⟨by decide +kernel, by decide +kernel, by decide +kernel⟩, by decide⟩
theorem vX3_solve : Cond.instanceMethod yX3_solve ∈ xT ∧ Cond.selects yX3_solve.cls yX3_solve yX3_solve ∈ xT := ⟨xin2 153 (by decide +kernel) rfl, xin2 154 (by decide +kernel) rfl⟩
set_option maxRecDepth 20000 in
theorem mX3_readLikes : xMd yX3_readLikes cX3_readLikes 8 none 3 := ⟨xin2 159 rfl rfl, xin1 11 (by decide +kernel) rfl, ⟨by decide +kernel, by decide +kernel, by decide +kernel⟩, by decide⟩
theorem vX3_readLikes : Cond.instanceMethod yX3_readLikes ∈ xT ∧ Cond.selects yX3_readLikes.cls yX3_readLikes yX3_readLikes ∈ xT := ⟨xin2 158 (by decide +kernel) rfl, xins 5 (by decide +kernel) rfl⟩
set_option maxRecDepth 20000 in
theorem mX3_weighStates : xMd yX3_weighStates cX3_weighStates 4 none 0 := ⟨xin2 164 rfl rfl, xin1 11 (by decide +kernel) rfl, ⟨by decide +kernel, by decide +kernel, by decide +kernel⟩, by decide⟩
theorem vX3_weighStates : Cond.instanceMethod yX3_weighStates ∈ xT ∧ Cond.selects yX3_weighStates.cls yX3_weighStates yX3_weighStates ∈ xT := ⟨xin2 163 (by decide +kernel) rfl, xins 6 (by decide +kernel) rfl⟩
set_option maxRecDepth 20000 in
theorem mX3_weighState : xMd yX3_weighState cX3_weighState 5 (some .int) 2 := ⟨xin2 169 rfl rfl, xin1 11 (by decide +kernel) rfl, ⟨by decide +kernel, by decide +kernel, by decide +kernel⟩, by decide⟩
theorem vX3_weighState : Cond.instanceMethod yX3_weighState ∈ xT ∧ Cond.selects yX3_weighState.cls yX3_weighState yX3_weighState ∈ xT := ⟨xin2 168 (by decide +kernel) rfl, xins 7 (by decide +kernel) rfl⟩
set_option maxRecDepth 20000 in
theorem mX3_valueOf : xMd yX3_valueOf cX3_valueOf 5 (some .int) 3 := ⟨xin2 173 rfl rfl, xin1 11 (by decide +kernel) rfl, ⟨by decide +kernel, by decide +kernel, by decide +kernel⟩, by decide⟩
theorem vX3_valueOf : Cond.instanceMethod yX3_valueOf ∈ xT ∧ Cond.selects yX3_valueOf.cls yX3_valueOf yX3_valueOf ∈ xT := ⟨xin2 172 (by decide +kernel) rfl, xins 8 (by decide +kernel) rfl⟩
set_option maxRecDepth 20000 in
theorem mX3_tellFirst : xMd yX3_tellFirst cX3_tellFirst 6 none 1 := ⟨xin2 178 rfl rfl, xin1 11 (by decide +kernel) rfl, ⟨by decide +kernel, by decide +kernel, by decide +kernel⟩, by decide⟩
theorem vX3_tellFirst : Cond.instanceMethod yX3_tellFirst ∈ xT ∧ Cond.selects yX3_tellFirst.cls yX3_tellFirst yX3_tellFirst ∈ xT := ⟨xin2 177 (by decide +kernel) rfl, xins 9 (by decide +kernel) rfl⟩
set_option maxRecDepth 20000 in
theorem mX3_tellWays : xMd yX3_tellWays cX3_tellWays 6 none 1 := ⟨xin2 182 rfl rfl, xin1 11 (by decide +kernel) rfl, ⟨by decide +kernel, by decide +kernel, by decide +kernel⟩, by decide⟩
theorem vX3_tellWays : Cond.instanceMethod yX3_tellWays ∈ xT ∧ Cond.selects yX3_tellWays.cls yX3_tellWays yX3_tellWays ∈ xT := ⟨xin2 181 (by decide +kernel) rfl, xins 10 (by decide +kernel) rfl⟩
set_option maxRecDepth 20000 in
theorem mX3_passOn : xMd yX3_passOn cX3_passOn 6 (some .int) 2 := ⟨xin2 186 rfl rfl, xin1 11 (by decide +kernel) rfl, ⟨by decide +kernel, by decide +kernel, by decide +kernel⟩, by decide⟩
theorem vX3_passOn : Cond.instanceMethod yX3_passOn ∈ xT ∧ Cond.selects yX3_passOn.cls yX3_passOn yX3_passOn ∈ xT := ⟨xin2 185 (by decide +kernel) rfl, xins 11 (by decide +kernel) rfl⟩
set_option maxRecDepth 20000 in
theorem mX3_addWays : xMd yX3_addWays cX3_addWays 3 none 2 := ⟨xin2 190 rfl rfl, xin1 11 (by decide +kernel) rfl, ⟨by decide +kernel, by decide +kernel, by decide +kernel⟩, by decide⟩
theorem vX3_addWays : Cond.instanceMethod yX3_addWays ∈ xT ∧ Cond.selects yX3_addWays.cls yX3_addWays yX3_addWays ∈ xT := ⟨xin2 189 (by decide +kernel) rfl, xins 12 (by decide +kernel) rfl⟩
set_option maxRecDepth 20000 in
theorem mJ9_min_7cf53 : xMd yJ9_min_7cf53 cJ9_min_7cf53 2 (some .int) 2 := ⟨xin2 194 rfl rfl, xin1 9 (by decide +kernel) rfl, ⟨by decide +kernel, by decide +kernel, by decide +kernel⟩, by decide⟩
theorem sJ9_min_7cf53 : Cond.static yJ9_min_7cf53 ∈ xT := xin2 193 (by decide +kernel) rfl
set_option maxRecDepth 20000 in
theorem mX3_sumWays : xMd yX3_sumWays cX3_sumWays 4 (some .int) 1 := ⟨xin2 198 rfl rfl, xin1 11 (by decide +kernel) rfl, ⟨by decide +kernel, by decide +kernel, by decide +kernel⟩, by decide⟩
theorem vX3_sumWays : Cond.instanceMethod yX3_sumWays ∈ xT ∧ Cond.selects yX3_sumWays.cls yX3_sumWays yX3_sumWays ∈ xT := ⟨xin2 197 (by decide +kernel) rfl, xins 13 (by decide +kernel) rfl⟩
set_option maxRecDepth 20000 in
theorem mX8_joined : xMd yX8_joined cX8_joined 4 (some .int) 3 := ⟨xin2 202 rfl rfl, xin1 1 (by decide +kernel) rfl, ⟨by decide +kernel, by decide +kernel, by decide +kernel⟩, by decide⟩
theorem vX8_joined : Cond.instanceMethod yX8_joined ∈ xT ∧ Cond.selects yX8_joined.cls yX8_joined yX8_joined ∈ xT := ⟨xin2 200 (by decide +kernel) rfl, xin2 201 (by decide +kernel) rfl⟩
set_option maxRecDepth 20000 in
theorem mX8_bests : xMd yX8_bests cX8_bests 3 (some .int) 2 := ⟨xin2 206 rfl rfl, xin1 1 (by decide +kernel) rfl, ⟨by decide +kernel, by decide +kernel, by decide +kernel⟩, by decide⟩
theorem vX8_bests : Cond.instanceMethod yX8_bests ∈ xT ∧ Cond.selects yX8_bests.cls yX8_bests yX8_bests ∈ xT := ⟨xin2 204 (by decide +kernel) rfl, xin2 205 (by decide +kernel) rfl⟩
set_option maxRecDepth 20000 in
theorem mX8_sure : xMd yX8_sure cX8_sure 4 (some .int) 3 := ⟨xin2 210 rfl rfl, xin1 1 (by decide +kernel) rfl, ⟨by decide +kernel, by decide +kernel, by decide +kernel⟩, by decide⟩
theorem vX8_sure : Cond.instanceMethod yX8_sure ∈ xT ∧ Cond.selects yX8_sure.cls yX8_sure yX8_sure ∈ xT := ⟨xin2 208 (by decide +kernel) rfl, xin2 209 (by decide +kernel) rfl⟩
set_option maxRecDepth 20000 in
theorem mX8_chain : xMd yX8_chain cX8_chain 5 (some .int) 4 := ⟨xin2 214 rfl rfl, xin1 1 (by decide +kernel) rfl, ⟨by decide +kernel, by decide +kernel, by decide +kernel⟩, by decide⟩
theorem vX8_chain : Cond.instanceMethod yX8_chain ∈ xT ∧ Cond.selects yX8_chain.cls yX8_chain yX8_chain ∈ xT := ⟨xin2 212 (by decide +kernel) rfl, xin2 213 (by decide +kernel) rfl⟩
set_option maxRecDepth 20000 in
theorem mX8_isWay : xMd yX8_isWay cX8_isWay 5 (some .boolean) 2 := ⟨xin2 217 rfl rfl, xin1 1 (by decide +kernel) rfl, ⟨by decide +kernel, by decide +kernel, by decide +kernel⟩, by decide⟩
theorem sX8_isWay : Cond.static yX8_isWay ∈ xT := xin2 216 (by decide +kernel) rfl
set_option maxRecDepth 20000 in
theorem mX8_followChain : xMd yX8_followChain cX8_followChain 14 (some .int) 4 := ⟨xin2 221 rfl rfl, xin1 1 (by decide +kernel) rfl, ⟨by decide +kernel, by decide +kernel, by decide +kernel⟩, by decide⟩
theorem vX8_followChain : Cond.instanceMethod yX8_followChain ∈ xT ∧ Cond.selects yX8_followChain.cls yX8_followChain yX8_followChain ∈ xT := ⟨xin2 220 (by decide +kernel) rfl, xins 14 (by decide +kernel) rfl⟩
set_option maxRecDepth 20000 in
theorem mX8_copied : xMd yX8_copied cX8_copied 6 (some .int) 3 := ⟨xin2 226 rfl rfl, xin1 1 (by decide +kernel) rfl, ⟨by decide +kernel, by decide +kernel, by decide +kernel⟩, by decide⟩
theorem vX8_copied : Cond.instanceMethod yX8_copied ∈ xT ∧ Cond.selects yX8_copied.cls yX8_copied yX8_copied ∈ xT := ⟨xin2 224 (by decide +kernel) rfl, xin2 225 (by decide +kernel) rfl⟩
set_option maxRecDepth 20000 in
theorem mX1_isSameText : xMd yX1_isSameText cX1_isSameText 3 (some .boolean) 2 := ⟨xin2 230 rfl rfl, xin1 2 (by decide +kernel) rfl, ⟨by decide +kernel, by decide +kernel, by decide +kernel⟩, by decide⟩
theorem vX1_isSameText : Cond.instanceMethod yX1_isSameText ∈ xT ∧ Cond.selects yX1_isSameText.cls yX1_isSameText yX1_isSameText ∈ xT := ⟨xin2 228 (by decide +kernel) rfl, xin2 229 (by decide +kernel) rfl⟩
set_option maxRecDepth 20000 in
theorem mX8_sight : xMd yX8_sight cX8_sight 6 (some .int) 4 := ⟨xin2 234 rfl rfl, xin1 1 (by decide +kernel) rfl, ⟨by decide +kernel, by decide +kernel, by decide +kernel⟩, by decide⟩
theorem vX8_sight : Cond.instanceMethod yX8_sight ∈ xT ∧ Cond.selects yX8_sight.cls yX8_sight yX8_sight ∈ xT := ⟨xin2 232 (by decide +kernel) rfl, xin2 233 (by decide +kernel) rfl⟩
set_option maxRecDepth 20000 in
theorem mX8_isThing : xMd yX8_isThing cX8_isThing 1 (some .boolean) 1 := ⟨xin2 237 rfl rfl, xin1 1 (by decide +kernel) rfl, ⟨by decide +kernel, by decide +kernel, by decide +kernel⟩, by decide⟩
theorem sX8_isThing : Cond.static yX8_isThing ∈ xT := xin2 236 (by decide +kernel) rfl
set_option maxRecDepth 20000 in
theorem mX8_daysRefusal : xMd yX8_daysRefusal cX8_daysRefusal 2 (some .int) 2 := ⟨xin3 0 rfl rfl, xin1 1 (by decide +kernel) rfl, ⟨by decide +kernel, by decide +kernel, by decide +kernel⟩, by decide⟩
theorem sX8_daysRefusal : Cond.static yX8_daysRefusal ∈ xT := xin2 239 (by decide +kernel) rfl
set_option maxRecDepth 20000 in
theorem mX5_addRecord : xMd yX5_addRecord cX5_addRecord 8 (some .int) 5 := ⟨xin3 5 rfl rfl, xin1 4 (by decide +kernel) rfl, ⟨by decide +kernel, by decide +kernel, by decide +kernel⟩, by decide⟩
theorem vX5_addRecord : Cond.instanceMethod yX5_addRecord ∈ xT ∧ Cond.selects yX5_addRecord.cls yX5_addRecord yX5_addRecord ∈ xT := ⟨xin3 3 (by decide +kernel) rfl, xin3 4 (by decide +kernel) rfl⟩
set_option maxRecDepth 20000 in
theorem mX8_move : xMd yX8_move cX8_move 7 (some .int) 5 := ⟨xin3 10 rfl rfl, xin1 1 (by decide +kernel) rfl, ⟨by decide +kernel, by decide +kernel, by decide +kernel⟩, by decide⟩
theorem vX8_move : Cond.instanceMethod yX8_move ∈ xT ∧ Cond.selects yX8_move.cls yX8_move yX8_move ∈ xT := ⟨xin3 8 (by decide +kernel) rfl, xin3 9 (by decide +kernel) rfl⟩
set_option maxRecDepth 20000 in
theorem mX8_withdraw : xMd yX8_withdraw cX8_withdraw 5 (some .int) 3 := ⟨xin3 14 rfl rfl, xin1 1 (by decide +kernel) rfl, ⟨by decide +kernel, by decide +kernel, by decide +kernel⟩, by decide⟩
theorem vX8_withdraw : Cond.instanceMethod yX8_withdraw ∈ xT ∧ Cond.selects yX8_withdraw.cls yX8_withdraw yX8_withdraw ∈ xT := ⟨xin3 12 (by decide +kernel) rfl, xin3 13 (by decide +kernel) rfl⟩
set_option maxRecDepth 20000 in
theorem mX5_takeBack : xMd yX5_takeBack cX5_takeBack 3 none 2 := ⟨xin3 19 rfl rfl, xin1 4 (by decide +kernel) rfl, ⟨by decide +kernel, by decide +kernel, by decide +kernel⟩, by decide⟩
theorem vX5_takeBack : Cond.instanceMethod yX5_takeBack ∈ xT ∧ Cond.selects yX5_takeBack.cls yX5_takeBack yX5_takeBack ∈ xT := ⟨xin3 17 (by decide +kernel) rfl, xin3 18 (by decide +kernel) rfl⟩
set_option maxRecDepth 20000 in
theorem mX8_where : xMd yX8_where cX8_where 5 (some .int) 3 := ⟨xin3 23 rfl rfl, xin1 1 (by decide +kernel) rfl, ⟨by decide +kernel, by decide +kernel, by decide +kernel⟩, by decide⟩
theorem vX8_where : Cond.instanceMethod yX8_where ∈ xT ∧ Cond.selects yX8_where.cls yX8_where yX8_where ∈ xT := ⟨xin3 21 (by decide +kernel) rfl, xin3 22 (by decide +kernel) rfl⟩
set_option maxRecDepth 20000 in
theorem mX5_lastPlace : xMd yX5_lastPlace cX5_lastPlace 7 (some .int) 3 := ⟨xin3 27 rfl rfl, xin1 4 (by decide +kernel) rfl, ⟨by decide +kernel, by decide +kernel, by decide +kernel⟩, by decide⟩
theorem vX5_lastPlace : Cond.instanceMethod yX5_lastPlace ∈ xT ∧ Cond.selects yX5_lastPlace.cls yX5_lastPlace yX5_lastPlace ∈ xT := ⟨xin3 25 (by decide +kernel) rfl, xin3 26 (by decide +kernel) rfl⟩
set_option maxRecDepth 20000 in
theorem mX5_counts : xMd yX5_counts cX5_counts 4 (some .boolean) 3 := ⟨xin3 31 rfl rfl, xin1 4 (by decide +kernel) rfl, ⟨by decide +kernel, by decide +kernel, by decide +kernel⟩, by decide⟩
theorem vX5_counts : Cond.instanceMethod yX5_counts ∈ xT ∧ Cond.selects yX5_counts.cls yX5_counts yX5_counts ∈ xT := ⟨xin3 29 (by decide +kernel) rfl, xin3 30 (by decide +kernel) rfl⟩
set_option maxRecDepth 20000 in
theorem mX8_quarrels : xMd yX8_quarrels cX8_quarrels 4 (some .int) 2 := ⟨xin3 35 rfl rfl, xin1 1 (by decide +kernel) rfl, ⟨by decide +kernel, by decide +kernel, by decide +kernel⟩, by decide⟩
theorem vX8_quarrels : Cond.instanceMethod yX8_quarrels ∈ xT ∧ Cond.selects yX8_quarrels.cls yX8_quarrels yX8_quarrels ∈ xT := ⟨xin3 33 (by decide +kernel) rfl, xin3 34 (by decide +kernel) rfl⟩
set_option maxRecDepth 20000 in
theorem mX5_quarrelDays : xMd yX5_quarrelDays cX5_quarrelDays 9 (some .int) 2 := ⟨xin3 39 rfl rfl, xin1 4 (by decide +kernel) rfl, ⟨by decide +kernel, by decide +kernel, by decide +kernel⟩, by decide⟩
theorem vX5_quarrelDays : Cond.instanceMethod yX5_quarrelDays ∈ xT ∧ Cond.selects yX5_quarrelDays.cls yX5_quarrelDays yX5_quarrelDays ∈ xT := ⟨xin3 37 (by decide +kernel) rfl, xin3 38 (by decide +kernel) rfl⟩
set_option maxRecDepth 20000 in
theorem mX8_holds : xMd yX8_holds cX8_holds 6 (some .int) 4 := ⟨xin3 43 rfl rfl, xin1 1 (by decide +kernel) rfl, ⟨by decide +kernel, by decide +kernel, by decide +kernel⟩, by decide⟩
theorem vX8_holds : Cond.instanceMethod yX8_holds ∈ xT ∧ Cond.selects yX8_holds.cls yX8_holds yX8_holds ∈ xT := ⟨xin3 41 (by decide +kernel) rfl, xin3 42 (by decide +kernel) rfl⟩
set_option maxRecDepth 20000 in
theorem mX2_replay : xMd yX2_replay cX2_replay 7 none 4 := ⟨xin3 47 rfl rfl, xin1 5 (by decide +kernel) rfl, ⟨by decide +kernel, by decide +kernel, by decide +kernel⟩, by decide⟩
theorem vX2_replay : Cond.instanceMethod yX2_replay ∈ xT ∧ Cond.selects yX2_replay.cls yX2_replay yX2_replay ∈ xT := ⟨xin3 45 (by decide +kernel) rfl, xin3 46 (by decide +kernel) rfl⟩
set_option maxRecDepth 20000 in
theorem mX2_follow : xMd yX2_follow cX2_follow 3 none 2 := ⟨xin3 52 rfl rfl, xin1 5 (by decide +kernel) rfl, ⟨by decide +kernel, by decide +kernel, by decide +kernel⟩, by decide⟩
theorem vX2_follow : Cond.instanceMethod yX2_follow ∈ xT ∧ Cond.selects yX2_follow.cls yX2_follow yX2_follow ∈ xT := ⟨xin3 51 (by decide +kernel) rfl, xins 15 (by decide +kernel) rfl⟩
set_option maxRecDepth 20000 in
theorem mX8_since : xMd yX8_since cX8_since 5 (some .int) 3 := ⟨xin3 56 rfl rfl, xin1 1 (by decide +kernel) rfl, ⟨by decide +kernel, by decide +kernel, by decide +kernel⟩, by decide⟩
theorem vX8_since : Cond.instanceMethod yX8_since ∈ xT ∧ Cond.selects yX8_since.cls yX8_since yX8_since ∈ xT := ⟨xin3 54 (by decide +kernel) rfl, xin3 55 (by decide +kernel) rfl⟩
set_option maxRecDepth 20000 in
theorem mX2_heldSince : xMd yX2_heldSince cX2_heldSince 9 (some .int) 4 := ⟨xin3 60 rfl rfl, xin1 5 (by decide +kernel) rfl, ⟨by decide +kernel, by decide +kernel, by decide +kernel⟩, by decide⟩
theorem vX2_heldSince : Cond.instanceMethod yX2_heldSince ∈ xT ∧ Cond.selects yX2_heldSince.cls yX2_heldSince yX2_heldSince ∈ xT := ⟨xin3 58 (by decide +kernel) rfl, xin3 59 (by decide +kernel) rfl⟩
set_option maxRecDepth 20000 in
theorem mX5_lastChange : xMd yX5_lastChange cX5_lastChange 5 (some .int) 2 := ⟨xin3 65 rfl rfl, xin1 4 (by decide +kernel) rfl, ⟨by decide +kernel, by decide +kernel, by decide +kernel⟩, by decide⟩
theorem vX5_lastChange : Cond.instanceMethod yX5_lastChange ∈ xT ∧ Cond.selects yX5_lastChange.cls yX5_lastChange yX5_lastChange ∈ xT := ⟨xin3 63 (by decide +kernel) rfl, xin3 64 (by decide +kernel) rfl⟩
set_option maxRecDepth 20000 in
theorem mX8_visitor : xMd yX8_visitor cX8_visitor 5 (some .int) 4 := ⟨xin3 70 rfl rfl, xin1 1 (by decide +kernel) rfl, ⟨by decide +kernel, by decide +kernel, by decide +kernel⟩, by decide⟩
theorem vX8_visitor : Cond.instanceMethod yX8_visitor ∈ xT ∧ Cond.selects yX8_visitor.cls yX8_visitor yX8_visitor ∈ xT := ⟨xin3 68 (by decide +kernel) rfl, xin3 69 (by decide +kernel) rfl⟩
set_option maxRecDepth 20000 in
theorem mX8_needsTwo : xMd yX8_needsTwo cX8_needsTwo 1 (some .boolean) 1 := ⟨xin3 73 rfl rfl, xin1 1 (by decide +kernel) rfl, ⟨by decide +kernel, by decide +kernel, by decide +kernel⟩, by decide⟩
theorem sX8_needsTwo : Cond.static yX8_needsTwo ∈ xT := xin3 72 (by decide +kernel) rfl
set_option maxRecDepth 20000 in
theorem mX6_addSaying : xMd yX6_addSaying cX6_addSaying 6 (some .int) 4 := ⟨xin3 77 rfl rfl, xin1 6 (by decide +kernel) rfl, ⟨by decide +kernel, by decide +kernel, by decide +kernel⟩, by decide⟩
theorem vX6_addSaying : Cond.instanceMethod yX6_addSaying ∈ xT ∧ Cond.selects yX6_addSaying.cls yX6_addSaying yX6_addSaying ∈ xT := ⟨xin3 75 (by decide +kernel) rfl, xin3 76 (by decide +kernel) rfl⟩
set_option maxRecDepth 20000 in
theorem mX8_shelf : xMd yX8_shelf cX8_shelf 3 (some .int) 1 := ⟨xin3 81 rfl rfl, xin1 1 (by decide +kernel) rfl, ⟨by decide +kernel, by decide +kernel, by decide +kernel⟩, by decide⟩
theorem vX8_shelf : Cond.instanceMethod yX8_shelf ∈ xT ∧ Cond.selects yX8_shelf.cls yX8_shelf yX8_shelf ∈ xT := ⟨xin3 79 (by decide +kernel) rfl, xin3 80 (by decide +kernel) rfl⟩
set_option maxRecDepth 20000 in
theorem mX8_shelfRefusal : xMd yX8_shelfRefusal cX8_shelfRefusal 1 (some .int) 1 := ⟨xin3 84 rfl rfl, xin1 1 (by decide +kernel) rfl, ⟨by decide +kernel, by decide +kernel, by decide +kernel⟩, by decide⟩
theorem sX8_shelfRefusal : Cond.static yX8_shelfRefusal ∈ xT := xin3 83 (by decide +kernel) rfl
set_option maxRecDepth 20000 in
theorem mX8_bestRow : xMd yX8_bestRow cX8_bestRow 2 (some (.object RX7)) 1 := ⟨xin3 89 rfl rfl, xin1 1 (by decide +kernel) rfl, ⟨by decide +kernel, by decide +kernel, by decide +kernel⟩, by decide⟩
theorem vX8_bestRow : Cond.instanceMethod yX8_bestRow ∈ xT ∧ Cond.selects yX8_bestRow.cls yX8_bestRow yX8_bestRow ∈ xT := ⟨xin3 88 (by decide +kernel) rfl, xins 16 (by decide +kernel) rfl⟩
set_option maxRecDepth 20000 in
theorem mX7_init : xMd yX7_init cX7_init 1 none 0 := ⟨xin3 94 rfl rfl, xin1 12 (by decide +kernel) rfl, ⟨by decide +kernel, by decide +kernel, by decide +kernel⟩, by decide⟩
theorem vX7_init : yX7_init.name = "<init>" ∧ Cond.instanceMethod yX7_init ∈ xT := ⟨rfl, xin3 93 (by decide +kernel) rfl⟩
set_option maxRecDepth 20000 in
theorem mX7_rebuild : xMd yX7_rebuild cX7_rebuild 4 none 2 := ⟨xin3 146 rfl rfl, xin1 12 (by decide +kernel) rfl, ⟨by decide +kernel, by decide +kernel, by decide +kernel⟩, by decide⟩
theorem vX7_rebuild : Cond.instanceMethod yX7_rebuild ∈ xT ∧ Cond.selects yX7_rebuild.cls yX7_rebuild yX7_rebuild ∈ xT := ⟨xin3 144 (by decide +kernel) rfl, xin3 145 (by decide +kernel) rfl⟩
set_option maxRecDepth 20000 in
theorem mX7_readThings : xMd yX7_readThings cX7_readThings 3 none 1 := ⟨xin3 150 rfl rfl, xin1 12 (by decide +kernel) rfl, ⟨by decide +kernel, by decide +kernel, by decide +kernel⟩, by decide⟩
theorem vX7_readThings : Cond.instanceMethod yX7_readThings ∈ xT ∧ Cond.selects yX7_readThings.cls yX7_readThings yX7_readThings ∈ xT := ⟨xin3 149 (by decide +kernel) rfl, xins 17 (by decide +kernel) rfl⟩
set_option maxRecDepth 20000 in
theorem mX7_clearTrust : xMd yX7_clearTrust cX7_clearTrust 2 none 0 := ⟨xin3 154 rfl rfl, xin1 12 (by decide +kernel) rfl, ⟨by decide +kernel, by decide +kernel, by decide +kernel⟩, by decide⟩
theorem vX7_clearTrust : Cond.instanceMethod yX7_clearTrust ∈ xT ∧ Cond.selects yX7_clearTrust.cls yX7_clearTrust yX7_clearTrust ∈ xT := ⟨xin3 153 (by decide +kernel) rfl, xins 18 (by decide +kernel) rfl⟩
set_option maxRecDepth 20000 in
theorem mX7_addTrust : xMd yX7_addTrust cX7_addTrust 5 none 4 := ⟨xin3 158 rfl rfl, xin1 12 (by decide +kernel) rfl, ⟨by decide +kernel, by decide +kernel, by decide +kernel⟩, by decide⟩
theorem vX7_addTrust : Cond.instanceMethod yX7_addTrust ∈ xT ∧ Cond.selects yX7_addTrust.cls yX7_addTrust yX7_addTrust ∈ xT := ⟨xin3 157 (by decide +kernel) rfl, xins 19 (by decide +kernel) rfl⟩
set_option maxRecDepth 20000 in
theorem mX7_weighStates : xMd yX7_weighStates cX7_weighStates 4 none 0 := ⟨xin3 162 rfl rfl, xin1 12 (by decide +kernel) rfl, ⟨by decide +kernel, by decide +kernel, by decide +kernel⟩, by decide⟩
theorem vX7_weighStates : Cond.instanceMethod yX7_weighStates ∈ xT ∧ Cond.selects yX7_weighStates.cls yX7_weighStates yX7_weighStates ∈ xT := ⟨xin3 161 (by decide +kernel) rfl, xins 20 (by decide +kernel) rfl⟩
set_option maxRecDepth 20000 in
theorem mX7_readGains : xMd yX7_readGains cX7_readGains 6 none 1 := ⟨xin3 166 rfl rfl, xin1 12 (by decide +kernel) rfl, ⟨by decide +kernel, by decide +kernel, by decide +kernel⟩, by decide⟩
theorem vX7_readGains : Cond.instanceMethod yX7_readGains ∈ xT ∧ Cond.selects yX7_readGains.cls yX7_readGains yX7_readGains ∈ xT := ⟨xin3 165 (by decide +kernel) rfl, xins 21 (by decide +kernel) rfl⟩
set_option maxRecDepth 20000 in
theorem mX7_weighState : xMd yX7_weighState cX7_weighState 5 (some .int) 2 := ⟨xin3 170 rfl rfl, xin1 12 (by decide +kernel) rfl, ⟨by decide +kernel, by decide +kernel, by decide +kernel⟩, by decide⟩
theorem vX7_weighState : Cond.instanceMethod yX7_weighState ∈ xT ∧ Cond.selects yX7_weighState.cls yX7_weighState yX7_weighState ∈ xT := ⟨xin3 169 (by decide +kernel) rfl, xins 22 (by decide +kernel) rfl⟩
set_option maxRecDepth 20000 in
theorem mX7_valueOf : xMd yX7_valueOf cX7_valueOf 5 (some .int) 3 := ⟨xin3 174 rfl rfl, xin1 12 (by decide +kernel) rfl, ⟨by decide +kernel, by decide +kernel, by decide +kernel⟩, by decide⟩
theorem vX7_valueOf : Cond.instanceMethod yX7_valueOf ∈ xT ∧ Cond.selects yX7_valueOf.cls yX7_valueOf yX7_valueOf ∈ xT := ⟨xin3 173 (by decide +kernel) rfl, xins 23 (by decide +kernel) rfl⟩
set_option maxRecDepth 20000 in
theorem mX7_tellRow : xMd yX7_tellRow cX7_tellRow 5 none 0 := ⟨xin3 179 rfl rfl, xin1 12 (by decide +kernel) rfl, ⟨by decide +kernel, by decide +kernel, by decide +kernel⟩, by decide⟩
theorem vX7_tellRow : Cond.instanceMethod yX7_tellRow ∈ xT ∧ Cond.selects yX7_tellRow.cls yX7_tellRow yX7_tellRow ∈ xT := ⟨xin3 178 (by decide +kernel) rfl, xins 24 (by decide +kernel) rfl⟩
set_option maxRecDepth 20000 in
theorem mX7_firstBest : xMd yX7_firstBest cX7_firstBest 5 (some .int) 2 := ⟨xin3 183 rfl rfl, xin1 12 (by decide +kernel) rfl, ⟨by decide +kernel, by decide +kernel, by decide +kernel⟩, by decide⟩
theorem vX7_firstBest : Cond.instanceMethod yX7_firstBest ∈ xT ∧ Cond.selects yX7_firstBest.cls yX7_firstBest yX7_firstBest ∈ xT := ⟨xin3 182 (by decide +kernel) rfl, xins 25 (by decide +kernel) rfl⟩
set_option maxRecDepth 20000 in
theorem mX8_row : xMd yX8_row cX8_row 5 (some .int) 2 := ⟨xin3 187 rfl rfl, xin1 1 (by decide +kernel) rfl, ⟨by decide +kernel, by decide +kernel, by decide +kernel⟩, by decide⟩
theorem vX8_row : Cond.instanceMethod yX8_row ∈ xT ∧ Cond.selects yX8_row.cls yX8_row yX8_row ∈ xT := ⟨xin3 185 (by decide +kernel) rfl, xin3 186 (by decide +kernel) rfl⟩
set_option maxRecDepth 20000 in
theorem mX8_quarrel : xMd yX8_quarrel cX8_quarrel 4 (some .int) 1 := ⟨xin3 191 rfl rfl, xin1 1 (by decide +kernel) rfl, ⟨by decide +kernel, by decide +kernel, by decide +kernel⟩, by decide⟩
theorem vX8_quarrel : Cond.instanceMethod yX8_quarrel ∈ xT ∧ Cond.selects yX8_quarrel.cls yX8_quarrel yX8_quarrel ∈ xT := ⟨xin3 189 (by decide +kernel) rfl, xin3 190 (by decide +kernel) rfl⟩
set_option maxRecDepth 20000 in
theorem mX8_part : xMd yX8_part cX8_part 3 (some .int) 2 := ⟨xin3 195 rfl rfl, xin1 1 (by decide +kernel) rfl, ⟨by decide +kernel, by decide +kernel, by decide +kernel⟩, by decide⟩
theorem vX8_part : Cond.instanceMethod yX8_part ∈ xT ∧ Cond.selects yX8_part.cls yX8_part yX8_part ∈ xT := ⟨xin3 193 (by decide +kernel) rfl, xin3 194 (by decide +kernel) rfl⟩
set_option maxRecDepth 20000 in
theorem mX0_tellKind : xMd yX0_tellKind cX0_tellKind 4 (some .int) 2 := ⟨xin3 199 rfl rfl, xin1 7 (by decide +kernel) rfl, ⟨by decide +kernel, by decide +kernel, by decide +kernel⟩, by decide⟩
theorem vX0_tellKind : Cond.instanceMethod yX0_tellKind ∈ xT ∧ Cond.selects yX0_tellKind.cls yX0_tellKind yX0_tellKind ∈ xT := ⟨xin3 197 (by decide +kernel) rfl, xin3 198 (by decide +kernel) rfl⟩
set_option maxRecDepth 20000 in
theorem mX8_clash : xMd yX8_clash cX8_clash 4 (some .int) 3 := ⟨xin3 203 rfl rfl, xin1 1 (by decide +kernel) rfl, ⟨by decide +kernel, by decide +kernel, by decide +kernel⟩, by decide⟩
theorem vX8_clash : Cond.instanceMethod yX8_clash ∈ xT ∧ Cond.selects yX8_clash.cls yX8_clash yX8_clash ∈ xT := ⟨xin3 201 (by decide +kernel) rfl, xin3 202 (by decide +kernel) rfl⟩
set_option maxRecDepth 20000 in
theorem mX0_tellClash : xMd yX0_tellClash cX0_tellClash 5 (some .boolean) 3 := ⟨xin3 207 rfl rfl, xin1 7 (by decide +kernel) rfl, ⟨by decide +kernel, by decide +kernel, by decide +kernel⟩, by decide⟩
theorem vX0_tellClash : Cond.instanceMethod yX0_tellClash ∈ xT ∧ Cond.selects yX0_tellClash.cls yX0_tellClash yX0_tellClash ∈ xT := ⟨xin3 205 (by decide +kernel) rfl, xin3 206 (by decide +kernel) rfl⟩
set_option maxRecDepth 20000 in
theorem mX8_fake : xMd yX8_fake cX8_fake 2 (some .int) 1 := ⟨xin3 211 rfl rfl, xin1 1 (by decide +kernel) rfl, ⟨by decide +kernel, by decide +kernel, by decide +kernel⟩, by decide⟩
theorem vX8_fake : Cond.instanceMethod yX8_fake ∈ xT ∧ Cond.selects yX8_fake.cls yX8_fake yX8_fake ∈ xT := ⟨xin3 209 (by decide +kernel) rfl, xin3 210 (by decide +kernel) rfl⟩
set_option maxRecDepth 20000 in
theorem mX0_isFake : xMd yX0_isFake cX0_isFake 5 (some .boolean) 1 := ⟨xin3 215 rfl rfl, xin1 7 (by decide +kernel) rfl, ⟨by decide +kernel, by decide +kernel, by decide +kernel⟩, by decide⟩
theorem vX0_isFake : Cond.instanceMethod yX0_isFake ∈ xT ∧ Cond.selects yX0_isFake.cls yX0_isFake yX0_isFake ∈ xT := ⟨xin3 213 (by decide +kernel) rfl, xin3 214 (by decide +kernel) rfl⟩
set_option maxRecDepth 20000 in
theorem mX8_least : xMd yX8_least cX8_least 2 (some .int) 1 := ⟨xin3 219 rfl rfl, xin1 1 (by decide +kernel) rfl, ⟨by decide +kernel, by decide +kernel, by decide +kernel⟩, by decide⟩
theorem vX8_least : Cond.instanceMethod yX8_least ∈ xT ∧ Cond.selects yX8_least.cls yX8_least yX8_least ∈ xT := ⟨xin3 217 (by decide +kernel) rfl, xin3 218 (by decide +kernel) rfl⟩
set_option maxRecDepth 20000 in
theorem mX0_leastWithout : xMd yX0_leastWithout cX0_leastWithout 5 (some .int) 1 := ⟨xin3 223 rfl rfl, xin1 7 (by decide +kernel) rfl, ⟨by decide +kernel, by decide +kernel, by decide +kernel⟩, by decide⟩
theorem vX0_leastWithout : Cond.instanceMethod yX0_leastWithout ∈ xT ∧ Cond.selects yX0_leastWithout.cls yX0_leastWithout yX0_leastWithout ∈ xT := ⟨xin3 221 (by decide +kernel) rfl, xin3 222 (by decide +kernel) rfl⟩
set_option maxRecDepth 20000 in
theorem mX8_count : xMd yX8_count cX8_count 2 (some .int) 1 := ⟨xin3 229 rfl rfl, xin1 1 (by decide +kernel) rfl, ⟨by decide +kernel, by decide +kernel, by decide +kernel⟩, by decide⟩
theorem vX8_count : Cond.instanceMethod yX8_count ∈ xT ∧ Cond.selects yX8_count.cls yX8_count yX8_count ∈ xT := ⟨xin3 227 (by decide +kernel) rfl, xin3 228 (by decide +kernel) rfl⟩
set_option maxRecDepth 20000 in
theorem mX9_init : xMd yX9_init cX9_init 2 none 0 := ⟨xin3 234 rfl rfl, xin1 8 (by decide +kernel) rfl, ⟨by decide +kernel, by decide +kernel, by decide +kernel⟩, by decide⟩
theorem vX9_init : yX9_init.name = "<init>" ∧ Cond.instanceMethod yX9_init ∈ xT := ⟨rfl, xin3 233 (by decide +kernel) rfl⟩
set_option maxRecDepth 20000 in
theorem mX9_means : xMd yX9_means cX9_means 4 (some .int) 2 := ⟨xin4 138 rfl rfl, xin1 8 (by decide +kernel) rfl, ⟨by decide +kernel, by decide +kernel, by decide +kernel⟩, by decide⟩
theorem vX9_means : Cond.instanceMethod yX9_means ∈ xT ∧ Cond.selects yX9_means.cls yX9_means yX9_means ∈ xT := ⟨xin4 136 (by decide +kernel) rfl, xin4 137 (by decide +kernel) rfl⟩
set_option maxRecDepth 20000 in
theorem mX9_isIn : xMd yX9_isIn cX9_isIn 2 (some .boolean) 2 := ⟨xin4 141 rfl rfl, xin1 8 (by decide +kernel) rfl, ⟨by decide +kernel, by decide +kernel, by decide +kernel⟩, by decide⟩
theorem sX9_isIn : Cond.static yX9_isIn ∈ xT := xin4 140 (by decide +kernel) rfl
set_option maxRecDepth 20000 in
theorem mX9_refuse : xMd yX9_refuse cX9_refuse 2 (some .int) 1 := ⟨xin4 145 rfl rfl, xin1 8 (by decide +kernel) rfl, ⟨by decide +kernel, by decide +kernel, by decide +kernel⟩, by decide⟩
theorem vX9_refuse : Cond.instanceMethod yX9_refuse ∈ xT ∧ Cond.selects yX9_refuse.cls yX9_refuse yX9_refuse ∈ xT := ⟨xin4 144 (by decide +kernel) rfl, xins 26 (by decide +kernel) rfl⟩
set_option maxRecDepth 20000 in
theorem mX9_sense : xMd yX9_sense cX9_sense 2 (some .int) 1 := ⟨xin4 149 rfl rfl, xin1 8 (by decide +kernel) rfl, ⟨by decide +kernel, by decide +kernel, by decide +kernel⟩, by decide⟩
theorem vX9_sense : Cond.instanceMethod yX9_sense ∈ xT ∧ Cond.selects yX9_sense.cls yX9_sense yX9_sense ∈ xT := ⟨xin4 147 (by decide +kernel) rfl, xin4 148 (by decide +kernel) rfl⟩
set_option maxRecDepth 20000 in
theorem mX9_senseOf : xMd yX9_senseOf cX9_senseOf 3 (some .int) 1 := ⟨xin4 153 rfl rfl, xin1 8 (by decide +kernel) rfl, ⟨by decide +kernel, by decide +kernel, by decide +kernel⟩, by decide⟩
theorem vX9_senseOf : Cond.instanceMethod yX9_senseOf ∈ xT ∧ Cond.selects yX9_senseOf.cls yX9_senseOf yX9_senseOf ∈ xT := ⟨xin4 152 (by decide +kernel) rfl, xins 27 (by decide +kernel) rfl⟩
set_option maxRecDepth 20000 in
theorem mX9_year : xMd yX9_year cX9_year 5 (some .int) 2 := ⟨xin4 157 rfl rfl, xin1 8 (by decide +kernel) rfl, ⟨by decide +kernel, by decide +kernel, by decide +kernel⟩, by decide⟩
theorem vX9_year : Cond.instanceMethod yX9_year ∈ xT ∧ Cond.selects yX9_year.cls yX9_year yX9_year ∈ xT := ⟨xin4 155 (by decide +kernel) rfl, xin4 156 (by decide +kernel) rfl⟩
set_option maxRecDepth 20000 in
theorem mX9_wrong : xMd yX9_wrong cX9_wrong 3 (some .int) 3 := ⟨xin4 160 rfl rfl, xin1 8 (by decide +kernel) rfl, ⟨by decide +kernel, by decide +kernel, by decide +kernel⟩, by decide⟩
theorem sX9_wrong : Cond.static yX9_wrong ∈ xT := xin4 159 (by decide +kernel) rfl
set_option maxRecDepth 20000 in
theorem mX9_entry : xMd yX9_entry cX9_entry 7 (some .int) 5 := ⟨xin4 164 rfl rfl, xin1 8 (by decide +kernel) rfl, ⟨by decide +kernel, by decide +kernel, by decide +kernel⟩, by decide⟩
theorem vX9_entry : Cond.instanceMethod yX9_entry ∈ xT ∧ Cond.selects yX9_entry.cls yX9_entry yX9_entry ∈ xT := ⟨xin4 162 (by decide +kernel) rfl, xin4 163 (by decide +kernel) rfl⟩
set_option maxRecDepth 20000 in
theorem mX9_set : xMd yX9_set cX9_set 5 (some .int) 2 := ⟨xin4 169 rfl rfl, xin1 8 (by decide +kernel) rfl, ⟨by decide +kernel, by decide +kernel, by decide +kernel⟩, by decide⟩
theorem vX9_set : Cond.instanceMethod yX9_set ∈ xT ∧ Cond.selects yX9_set.cls yX9_set yX9_set ∈ xT := ⟨xin4 167 (by decide +kernel) rfl, xin4 168 (by decide +kernel) rfl⟩
set_option maxRecDepth 20000 in
theorem mX9_bar : xMd yX9_bar cX9_bar 5 (some .int) 4 := ⟨xin4 173 rfl rfl, xin1 8 (by decide +kernel) rfl, ⟨by decide +kernel, by decide +kernel, by decide +kernel⟩, by decide⟩
theorem vX9_bar : Cond.instanceMethod yX9_bar ∈ xT ∧ Cond.selects yX9_bar.cls yX9_bar yX9_bar ∈ xT := ⟨xin4 171 (by decide +kernel) rfl, xin4 172 (by decide +kernel) rfl⟩
set_option maxRecDepth 20000 in
theorem mX9_isEntry : xMd yX9_isEntry cX9_isEntry 3 (some .boolean) 2 := ⟨xin4 177 rfl rfl, xin1 8 (by decide +kernel) rfl, ⟨by decide +kernel, by decide +kernel, by decide +kernel⟩, by decide⟩
theorem vX9_isEntry : Cond.instanceMethod yX9_isEntry ∈ xT ∧ Cond.selects yX9_isEntry.cls yX9_isEntry yX9_isEntry ∈ xT := ⟨xin4 176 (by decide +kernel) rfl, xins 28 (by decide +kernel) rfl⟩
set_option maxRecDepth 20000 in
theorem mX9_isBarred : xMd yX9_isBarred cX9_isBarred 5 (some .boolean) 2 := ⟨xin4 181 rfl rfl, xin1 8 (by decide +kernel) rfl, ⟨by decide +kernel, by decide +kernel, by decide +kernel⟩, by decide⟩
theorem vX9_isBarred : Cond.instanceMethod yX9_isBarred ∈ xT ∧ Cond.selects yX9_isBarred.cls yX9_isBarred yX9_isBarred ∈ xT := ⟨xin4 180 (by decide +kernel) rfl, xins 29 (by decide +kernel) rfl⟩
set_option maxRecDepth 20000 in
theorem mX9_like : xMd yX9_like cX9_like 5 (some .int) 4 := ⟨xin4 185 rfl rfl, xin1 8 (by decide +kernel) rfl, ⟨by decide +kernel, by decide +kernel, by decide +kernel⟩, by decide⟩
theorem vX9_like : Cond.instanceMethod yX9_like ∈ xT ∧ Cond.selects yX9_like.cls yX9_like yX9_like ∈ xT := ⟨xin4 183 (by decide +kernel) rfl, xin4 184 (by decide +kernel) rfl⟩
set_option maxRecDepth 20000 in
theorem mX9_likeOf : xMd yX9_likeOf cX9_likeOf 12 (some .int) 4 := ⟨xin4 189 rfl rfl, xin1 8 (by decide +kernel) rfl, ⟨by decide +kernel, by decide +kernel, by decide +kernel⟩, by decide⟩
theorem vX9_likeOf : Cond.instanceMethod yX9_likeOf ∈ xT ∧ Cond.selects yX9_likeOf.cls yX9_likeOf yX9_likeOf ∈ xT := ⟨xin4 188 (by decide +kernel) rfl, xins 30 (by decide +kernel) rfl⟩
set_option maxRecDepth 20000 in
theorem mX9_senses : xMd yX9_senses cX9_senses 4 (some .int) 1 := ⟨xin4 194 rfl rfl, xin1 8 (by decide +kernel) rfl, ⟨by decide +kernel, by decide +kernel, by decide +kernel⟩, by decide⟩
theorem vX9_senses : Cond.instanceMethod yX9_senses ∈ xT ∧ Cond.selects yX9_senses.cls yX9_senses yX9_senses ∈ xT := ⟨xin4 193 (by decide +kernel) rfl, xins 31 (by decide +kernel) rfl⟩
set_option maxRecDepth 20000 in
theorem mX9_bitsOf : xMd yX9_bitsOf cX9_bitsOf 3 (some .int) 1 := ⟨xin4 197 rfl rfl, xin1 8 (by decide +kernel) rfl, ⟨by decide +kernel, by decide +kernel, by decide +kernel⟩, by decide⟩
theorem sX9_bitsOf : Cond.static yX9_bitsOf ∈ xT := xin4 196 (by decide +kernel) rfl
set_option maxRecDepth 20000 in
theorem mX9_join : xMd yX9_join cX9_join 3 (some .int) 2 := ⟨xin4 202 rfl rfl, xin1 8 (by decide +kernel) rfl, ⟨by decide +kernel, by decide +kernel, by decide +kernel⟩, by decide⟩
theorem vX9_join : Cond.instanceMethod yX9_join ∈ xT ∧ Cond.selects yX9_join.cls yX9_join yX9_join ∈ xT := ⟨xin4 200 (by decide +kernel) rfl, xin4 201 (by decide +kernel) rfl⟩
set_option maxRecDepth 20000 in
theorem mX9_areBooks : xMd yX9_areBooks cX9_areBooks 3 (some .boolean) 2 := ⟨xin4 206 rfl rfl, xin1 8 (by decide +kernel) rfl, ⟨by decide +kernel, by decide +kernel, by decide +kernel⟩, by decide⟩
theorem vX9_areBooks : Cond.instanceMethod yX9_areBooks ∈ xT ∧ Cond.selects yX9_areBooks.cls yX9_areBooks yX9_areBooks ∈ xT := ⟨xin4 205 (by decide +kernel) rfl, xins 32 (by decide +kernel) rfl⟩
set_option maxRecDepth 20000 in
theorem mX9_joins : xMd yX9_joins cX9_joins 8 (some .int) 2 := ⟨xin4 210 rfl rfl, xin1 8 (by decide +kernel) rfl, ⟨by decide +kernel, by decide +kernel, by decide +kernel⟩, by decide⟩
theorem vX9_joins : Cond.instanceMethod yX9_joins ∈ xT ∧ Cond.selects yX9_joins.cls yX9_joins yX9_joins ∈ xT := ⟨xin4 209 (by decide +kernel) rfl, xins 33 (by decide +kernel) rfl⟩
set_option maxRecDepth 20000 in
theorem mX9_measure : xMd yX9_measure cX9_measure 5 none 2 := ⟨xin4 214 rfl rfl, xin1 8 (by decide +kernel) rfl, ⟨by decide +kernel, by decide +kernel, by decide +kernel⟩, by decide⟩
theorem vX9_measure : Cond.instanceMethod yX9_measure ∈ xT ∧ Cond.selects yX9_measure.cls yX9_measure yX9_measure ∈ xT := ⟨xin4 213 (by decide +kernel) rfl, xins 34 (by decide +kernel) rfl⟩
set_option maxRecDepth 20000 in
theorem mX9_finds : xMd yX9_finds cX9_finds 11 (some .int) 2 := ⟨xin4 218 rfl rfl, xin1 8 (by decide +kernel) rfl, ⟨by decide +kernel, by decide +kernel, by decide +kernel⟩, by decide⟩
theorem vX9_finds : Cond.instanceMethod yX9_finds ∈ xT ∧ Cond.selects yX9_finds.cls yX9_finds yX9_finds ∈ xT := ⟨xin4 217 (by decide +kernel) rfl, xins 35 (by decide +kernel) rfl⟩
set_option maxRecDepth 20000 in
theorem mX9_at : xMd yX9_at cX9_at 2 (some .int) 2 := ⟨xin4 221 rfl rfl, xin1 8 (by decide +kernel) rfl, ⟨by decide +kernel, by decide +kernel, by decide +kernel⟩, by decide⟩
theorem sX9_at : Cond.static yX9_at ∈ xT := xin4 220 (by decide +kernel) rfl
set_option maxRecDepth 20000 in
theorem mX9_joined : xMd yX9_joined cX9_joined 5 (some .int) 3 := ⟨xin4 227 rfl rfl, xin1 8 (by decide +kernel) rfl, ⟨by decide +kernel, by decide +kernel, by decide +kernel⟩, by decide⟩
theorem vX9_joined : Cond.instanceMethod yX9_joined ∈ xT ∧ Cond.selects yX9_joined.cls yX9_joined yX9_joined ∈ xT := ⟨xin4 225 (by decide +kernel) rfl, xin4 226 (by decide +kernel) rfl⟩
set_option maxRecDepth 20000 in
theorem mX9_bests : xMd yX9_bests cX9_bests 4 (some .int) 2 := ⟨xin4 231 rfl rfl, xin1 8 (by decide +kernel) rfl, ⟨by decide +kernel, by decide +kernel, by decide +kernel⟩, by decide⟩
theorem vX9_bests : Cond.instanceMethod yX9_bests ∈ xT ∧ Cond.selects yX9_bests.cls yX9_bests yX9_bests ∈ xT := ⟨xin4 229 (by decide +kernel) rfl, xin4 230 (by decide +kernel) rfl⟩
set_option maxRecDepth 20000 in
theorem mX9_sure : xMd yX9_sure cX9_sure 4 (some .int) 3 := ⟨xin4 235 rfl rfl, xin1 8 (by decide +kernel) rfl, ⟨by decide +kernel, by decide +kernel, by decide +kernel⟩, by decide⟩
theorem vX9_sure : Cond.instanceMethod yX9_sure ∈ xT ∧ Cond.selects yX9_sure.cls yX9_sure yX9_sure ∈ xT := ⟨xin4 233 (by decide +kernel) rfl, xin4 234 (by decide +kernel) rfl⟩
set_option maxRecDepth 20000 in
theorem mX9_isSure : xMd yX9_isSure cX9_isSure 6 (some .boolean) 3 := ⟨xin4 239 rfl rfl, xin1 8 (by decide +kernel) rfl, ⟨by decide +kernel, by decide +kernel, by decide +kernel⟩, by decide⟩
theorem vX9_isSure : Cond.instanceMethod yX9_isSure ∈ xT ∧ Cond.selects yX9_isSure.cls yX9_isSure yX9_isSure ∈ xT := ⟨xin4 238 (by decide +kernel) rfl, xins 36 (by decide +kernel) rfl⟩
set_option maxRecDepth 20000 in
theorem mX9_chain : xMd yX9_chain cX9_chain 15 (some .int) 4 := ⟨xin5 3 rfl rfl, xin1 8 (by decide +kernel) rfl, ⟨by decide +kernel, by decide +kernel, by decide +kernel⟩, by decide⟩
theorem vX9_chain : Cond.instanceMethod yX9_chain ∈ xT ∧ Cond.selects yX9_chain.cls yX9_chain yX9_chain ∈ xT := ⟨xin5 1 (by decide +kernel) rfl, xin5 2 (by decide +kernel) rfl⟩
set_option maxRecDepth 20000 in
theorem mX9_copied : xMd yX9_copied cX9_copied 6 (some .int) 3 := ⟨xin5 7 rfl rfl, xin1 8 (by decide +kernel) rfl, ⟨by decide +kernel, by decide +kernel, by decide +kernel⟩, by decide⟩
theorem vX9_copied : Cond.instanceMethod yX9_copied ∈ xT ∧ Cond.selects yX9_copied.cls yX9_copied yX9_copied ∈ xT := ⟨xin5 5 (by decide +kernel) rfl, xin5 6 (by decide +kernel) rfl⟩
set_option maxRecDepth 20000 in
theorem mX9_sight : xMd yX9_sight cX9_sight 6 (some .int) 4 := ⟨xin5 11 rfl rfl, xin1 8 (by decide +kernel) rfl, ⟨by decide +kernel, by decide +kernel, by decide +kernel⟩, by decide⟩
theorem vX9_sight : Cond.instanceMethod yX9_sight ∈ xT ∧ Cond.selects yX9_sight.cls yX9_sight yX9_sight ∈ xT := ⟨xin5 9 (by decide +kernel) rfl, xin5 10 (by decide +kernel) rfl⟩
set_option maxRecDepth 20000 in
theorem mX9_wrongDays : xMd yX9_wrongDays cX9_wrongDays 2 (some .int) 2 := ⟨xin5 14 rfl rfl, xin1 8 (by decide +kernel) rfl, ⟨by decide +kernel, by decide +kernel, by decide +kernel⟩, by decide⟩
theorem sX9_wrongDays : Cond.static yX9_wrongDays ∈ xT := xin5 13 (by decide +kernel) rfl
set_option maxRecDepth 20000 in
theorem mX9_move : xMd yX9_move cX9_move 7 (some .int) 5 := ⟨xin5 20 rfl rfl, xin1 8 (by decide +kernel) rfl, ⟨by decide +kernel, by decide +kernel, by decide +kernel⟩, by decide⟩
theorem vX9_move : Cond.instanceMethod yX9_move ∈ xT ∧ Cond.selects yX9_move.cls yX9_move yX9_move ∈ xT := ⟨xin5 18 (by decide +kernel) rfl, xin5 19 (by decide +kernel) rfl⟩
set_option maxRecDepth 20000 in
theorem mX9_withdraw : xMd yX9_withdraw cX9_withdraw 5 (some .int) 3 := ⟨xin5 24 rfl rfl, xin1 8 (by decide +kernel) rfl, ⟨by decide +kernel, by decide +kernel, by decide +kernel⟩, by decide⟩
theorem vX9_withdraw : Cond.instanceMethod yX9_withdraw ∈ xT ∧ Cond.selects yX9_withdraw.cls yX9_withdraw yX9_withdraw ∈ xT := ⟨xin5 22 (by decide +kernel) rfl, xin5 23 (by decide +kernel) rfl⟩
set_option maxRecDepth 20000 in
theorem mX9_where : xMd yX9_where cX9_where 7 (some .int) 3 := ⟨xin5 28 rfl rfl, xin1 8 (by decide +kernel) rfl, ⟨by decide +kernel, by decide +kernel, by decide +kernel⟩, by decide⟩
theorem vX9_where : Cond.instanceMethod yX9_where ∈ xT ∧ Cond.selects yX9_where.cls yX9_where yX9_where ∈ xT := ⟨xin5 26 (by decide +kernel) rfl, xin5 27 (by decide +kernel) rfl⟩
set_option maxRecDepth 20000 in
theorem mX9_isSight : xMd yX9_isSight cX9_isSight 4 (some .boolean) 3 := ⟨xin5 32 rfl rfl, xin1 8 (by decide +kernel) rfl, ⟨by decide +kernel, by decide +kernel, by decide +kernel⟩, by decide⟩
theorem vX9_isSight : Cond.instanceMethod yX9_isSight ∈ xT ∧ Cond.selects yX9_isSight.cls yX9_isSight yX9_isSight ∈ xT := ⟨xin5 31 (by decide +kernel) rfl, xins 37 (by decide +kernel) rfl⟩
set_option maxRecDepth 20000 in
theorem mX9_quarrels : xMd yX9_quarrels cX9_quarrels 9 (some .int) 2 := ⟨xin5 36 rfl rfl, xin1 8 (by decide +kernel) rfl, ⟨by decide +kernel, by decide +kernel, by decide +kernel⟩, by decide⟩
theorem vX9_quarrels : Cond.instanceMethod yX9_quarrels ∈ xT ∧ Cond.selects yX9_quarrels.cls yX9_quarrels yX9_quarrels ∈ xT := ⟨xin5 34 (by decide +kernel) rfl, xin5 35 (by decide +kernel) rfl⟩
set_option maxRecDepth 20000 in
theorem mX9_holds : xMd yX9_holds cX9_holds 6 (some .int) 4 := ⟨xin5 40 rfl rfl, xin1 8 (by decide +kernel) rfl, ⟨by decide +kernel, by decide +kernel, by decide +kernel⟩, by decide⟩
theorem vX9_holds : Cond.instanceMethod yX9_holds ∈ xT ∧ Cond.selects yX9_holds.cls yX9_holds yX9_holds ∈ xT := ⟨xin5 38 (by decide +kernel) rfl, xin5 39 (by decide +kernel) rfl⟩
set_option maxRecDepth 20000 in
theorem mX9_goes : xMd yX9_goes cX9_goes 9 none 3 := ⟨xin5 44 rfl rfl, xin1 8 (by decide +kernel) rfl, ⟨by decide +kernel, by decide +kernel, by decide +kernel⟩, by decide⟩
theorem vX9_goes : Cond.instanceMethod yX9_goes ∈ xT ∧ Cond.selects yX9_goes.cls yX9_goes yX9_goes ∈ xT := ⟨xin5 43 (by decide +kernel) rfl, xins 38 (by decide +kernel) rfl⟩
set_option maxRecDepth 20000 in
theorem mX9_isMove : xMd yX9_isMove cX9_isMove 4 (some .boolean) 3 := ⟨xin5 48 rfl rfl, xin1 8 (by decide +kernel) rfl, ⟨by decide +kernel, by decide +kernel, by decide +kernel⟩, by decide⟩
theorem vX9_isMove : Cond.instanceMethod yX9_isMove ∈ xT ∧ Cond.selects yX9_isMove.cls yX9_isMove yX9_isMove ∈ xT := ⟨xin5 47 (by decide +kernel) rfl, xins 39 (by decide +kernel) rfl⟩
set_option maxRecDepth 20000 in
theorem mX9_since : xMd yX9_since cX9_since 7 (some .int) 3 := ⟨xin5 52 rfl rfl, xin1 8 (by decide +kernel) rfl, ⟨by decide +kernel, by decide +kernel, by decide +kernel⟩, by decide⟩
theorem vX9_since : Cond.instanceMethod yX9_since ∈ xT ∧ Cond.selects yX9_since.cls yX9_since yX9_since ∈ xT := ⟨xin5 50 (by decide +kernel) rfl, xin5 51 (by decide +kernel) rfl⟩
set_option maxRecDepth 20000 in
theorem mX9_changed : xMd yX9_changed cX9_changed 5 (some .int) 2 := ⟨xin5 56 rfl rfl, xin1 8 (by decide +kernel) rfl, ⟨by decide +kernel, by decide +kernel, by decide +kernel⟩, by decide⟩
theorem vX9_changed : Cond.instanceMethod yX9_changed ∈ xT ∧ Cond.selects yX9_changed.cls yX9_changed yX9_changed ∈ xT := ⟨xin5 55 (by decide +kernel) rfl, xins 40 (by decide +kernel) rfl⟩
set_option maxRecDepth 20000 in
theorem mX9_visitor : xMd yX9_visitor cX9_visitor 5 (some .int) 4 := ⟨xin5 60 rfl rfl, xin1 8 (by decide +kernel) rfl, ⟨by decide +kernel, by decide +kernel, by decide +kernel⟩, by decide⟩
theorem vX9_visitor : Cond.instanceMethod yX9_visitor ∈ xT ∧ Cond.selects yX9_visitor.cls yX9_visitor yX9_visitor ∈ xT := ⟨xin5 58 (by decide +kernel) rfl, xin5 59 (by decide +kernel) rfl⟩
set_option maxRecDepth 20000 in
theorem mX9_shelf : xMd yX9_shelf cX9_shelf 3 (some .int) 1 := ⟨xin5 64 rfl rfl, xin1 8 (by decide +kernel) rfl, ⟨by decide +kernel, by decide +kernel, by decide +kernel⟩, by decide⟩
theorem vX9_shelf : Cond.instanceMethod yX9_shelf ∈ xT ∧ Cond.selects yX9_shelf.cls yX9_shelf yX9_shelf ∈ xT := ⟨xin5 62 (by decide +kernel) rfl, xin5 63 (by decide +kernel) rfl⟩
set_option maxRecDepth 20000 in
theorem mX9_wrongShelf : xMd yX9_wrongShelf cX9_wrongShelf 2 (some .int) 1 := ⟨xin5 68 rfl rfl, xin1 8 (by decide +kernel) rfl, ⟨by decide +kernel, by decide +kernel, by decide +kernel⟩, by decide⟩
theorem vX9_wrongShelf : Cond.instanceMethod yX9_wrongShelf ∈ xT ∧ Cond.selects yX9_wrongShelf.cls yX9_wrongShelf yX9_wrongShelf ∈ xT := ⟨xin5 67 (by decide +kernel) rfl, xins 41 (by decide +kernel) rfl⟩
set_option maxRecDepth 20000 in
theorem mX9_shelves : xMd yX9_shelves cX9_shelves 7 (some .int) 1 := ⟨xin5 72 rfl rfl, xin1 8 (by decide +kernel) rfl, ⟨by decide +kernel, by decide +kernel, by decide +kernel⟩, by decide⟩
theorem vX9_shelves : Cond.instanceMethod yX9_shelves ∈ xT ∧ Cond.selects yX9_shelves.cls yX9_shelves yX9_shelves ∈ xT := ⟨xin5 71 (by decide +kernel) rfl, xins 42 (by decide +kernel) rfl⟩
set_option maxRecDepth 20000 in
theorem mX9_wins : xMd yX9_wins cX9_wins 10 (some .int) 4 := ⟨xin5 76 rfl rfl, xin1 8 (by decide +kernel) rfl, ⟨by decide +kernel, by decide +kernel, by decide +kernel⟩, by decide⟩
theorem vX9_wins : Cond.instanceMethod yX9_wins ∈ xT ∧ Cond.selects yX9_wins.cls yX9_wins yX9_wins ∈ xT := ⟨xin5 75 (by decide +kernel) rfl, xins 43 (by decide +kernel) rfl⟩
set_option maxRecDepth 20000 in
theorem mX9_stands : xMd yX9_stands cX9_stands 5 (some .boolean) 2 := ⟨xin5 80 rfl rfl, xin1 8 (by decide +kernel) rfl, ⟨by decide +kernel, by decide +kernel, by decide +kernel⟩, by decide⟩
theorem vX9_stands : Cond.instanceMethod yX9_stands ∈ xT ∧ Cond.selects yX9_stands.cls yX9_stands yX9_stands ∈ xT := ⟨xin5 79 (by decide +kernel) rfl, xins 44 (by decide +kernel) rfl⟩
set_option maxRecDepth 20000 in
theorem mX9_row : xMd yX9_row cX9_row 5 (some .int) 2 := ⟨xin5 84 rfl rfl, xin1 8 (by decide +kernel) rfl, ⟨by decide +kernel, by decide +kernel, by decide +kernel⟩, by decide⟩
theorem vX9_row : Cond.instanceMethod yX9_row ∈ xT ∧ Cond.selects yX9_row.cls yX9_row yX9_row ∈ xT := ⟨xin5 82 (by decide +kernel) rfl, xin5 83 (by decide +kernel) rfl⟩
set_option maxRecDepth 20000 in
theorem mX9_quarrel : xMd yX9_quarrel cX9_quarrel 5 (some .int) 1 := ⟨xin5 88 rfl rfl, xin1 8 (by decide +kernel) rfl, ⟨by decide +kernel, by decide +kernel, by decide +kernel⟩, by decide⟩
theorem vX9_quarrel : Cond.instanceMethod yX9_quarrel ∈ xT ∧ Cond.selects yX9_quarrel.cls yX9_quarrel yX9_quarrel ∈ xT := ⟨xin5 86 (by decide +kernel) rfl, xin5 87 (by decide +kernel) rfl⟩
set_option maxRecDepth 20000 in
theorem mX9_part : xMd yX9_part cX9_part 5 (some .int) 2 := ⟨xin5 92 rfl rfl, xin1 8 (by decide +kernel) rfl, ⟨by decide +kernel, by decide +kernel, by decide +kernel⟩, by decide⟩
theorem vX9_part : Cond.instanceMethod yX9_part ∈ xT ∧ Cond.selects yX9_part.cls yX9_part yX9_part ∈ xT := ⟨xin5 90 (by decide +kernel) rfl, xin5 91 (by decide +kernel) rfl⟩
set_option maxRecDepth 20000 in
theorem mX9_clash : xMd yX9_clash cX9_clash 4 (some .int) 3 := ⟨xin5 96 rfl rfl, xin1 8 (by decide +kernel) rfl, ⟨by decide +kernel, by decide +kernel, by decide +kernel⟩, by decide⟩
theorem vX9_clash : Cond.instanceMethod yX9_clash ∈ xT ∧ Cond.selects yX9_clash.cls yX9_clash yX9_clash ∈ xT := ⟨xin5 94 (by decide +kernel) rfl, xin5 95 (by decide +kernel) rfl⟩
set_option maxRecDepth 20000 in
theorem mX9_fake : xMd yX9_fake cX9_fake 2 (some .int) 1 := ⟨xin5 100 rfl rfl, xin1 8 (by decide +kernel) rfl, ⟨by decide +kernel, by decide +kernel, by decide +kernel⟩, by decide⟩
theorem vX9_fake : Cond.instanceMethod yX9_fake ∈ xT ∧ Cond.selects yX9_fake.cls yX9_fake yX9_fake ∈ xT := ⟨xin5 98 (by decide +kernel) rfl, xin5 99 (by decide +kernel) rfl⟩
set_option maxRecDepth 20000 in
theorem mX9_isBeast : xMd yX9_isBeast cX9_isBeast 1 (some .boolean) 1 := ⟨xin5 103 rfl rfl, xin1 8 (by decide +kernel) rfl, ⟨by decide +kernel, by decide +kernel, by decide +kernel⟩, by decide⟩
theorem sX9_isBeast : Cond.static yX9_isBeast ∈ xT := xin5 102 (by decide +kernel) rfl
set_option maxRecDepth 20000 in
theorem mX9_isFake : xMd yX9_isFake cX9_isFake 5 (some .boolean) 1 := ⟨xin5 107 rfl rfl, xin1 8 (by decide +kernel) rfl, ⟨by decide +kernel, by decide +kernel, by decide +kernel⟩, by decide⟩
theorem vX9_isFake : Cond.instanceMethod yX9_isFake ∈ xT ∧ Cond.selects yX9_isFake.cls yX9_isFake yX9_isFake ∈ xT := ⟨xin5 106 (by decide +kernel) rfl, xins 45 (by decide +kernel) rfl⟩
set_option maxRecDepth 20000 in
theorem mX9_least : xMd yX9_least cX9_least 4 (some .int) 1 := ⟨xin5 111 rfl rfl, xin1 8 (by decide +kernel) rfl, ⟨by decide +kernel, by decide +kernel, by decide +kernel⟩, by decide⟩
theorem vX9_least : Cond.instanceMethod yX9_least ∈ xT ∧ Cond.selects yX9_least.cls yX9_least yX9_least ∈ xT := ⟨xin5 109 (by decide +kernel) rfl, xin5 110 (by decide +kernel) rfl⟩
set_option maxRecDepth 20000 in
theorem mX9_count : xMd yX9_count cX9_count 5 (some .int) 1 := ⟨xin5 115 rfl rfl, xin1 8 (by decide +kernel) rfl, ⟨by decide +kernel, by decide +kernel, by decide +kernel⟩, by decide⟩
theorem vX9_count : Cond.instanceMethod yX9_count ∈ xT ∧ Cond.selects yX9_count.cls yX9_count yX9_count ∈ xT := ⟨xin5 113 (by decide +kernel) rfl, xin5 114 (by decide +kernel) rfl⟩
theorem lX8_3 : Cond.methodLink RX8 3 objectInit ∈ xT := xin1 18 (by decide +kernel) rfl
theorem lX8_19 : Cond.methodLink RX8 19 yX1_init ∈ xT := xin1 23 (by decide +kernel) rfl
theorem lX8_66 : Cond.methodLink RX8 66 yX8_isWord ∈ xT := xin2 19 (by decide +kernel) rfl
theorem lX8_70 : Cond.methodLink RX8 70 yX8_refuse ∈ xT := xin2 22 (by decide +kernel) rfl
theorem lX8_74 : Cond.methodLink RX8 74 yX1_tellMeaning ∈ xT := xin2 26 (by decide +kernel) rfl
theorem lX8_81 : Cond.methodLink RX8 81 yX8_isCatalogue ∈ xT := xin2 42 (by decide +kernel) rfl
theorem lX8_84 : Cond.methodLink RX8 84 yX1_tellYear ∈ xT := xin2 45 (by decide +kernel) rfl
theorem lX8_87 : Cond.methodLink RX8 87 yX8_hasOtherBits ∈ xT := xin2 53 (by decide +kernel) rfl
theorem lX8_94 : Cond.methodLink RX8 94 yX1_addEntry ∈ xT := xin2 56 (by decide +kernel) rfl
theorem lX8_98 : Cond.methodLink RX8 98 yX1_tellSpare ∈ xT := xin2 64 (by decide +kernel) rfl
theorem lX8_101 : Cond.methodLink RX8 101 yX1_tellFade ∈ xT := xin2 68 (by decide +kernel) rfl
theorem lX8_104 : Cond.methodLink RX8 104 yX8_areTwo ∈ xT := xin2 76 (by decide +kernel) rfl
theorem lX8_107 : Cond.methodLink RX8 107 yX8_isEntry ∈ xT := xin2 79 (by decide +kernel) rfl
theorem lX8_110 : Cond.methodLink RX8 110 yX1_isBarTold ∈ xT := xin2 83 (by decide +kernel) rfl
theorem lX8_117 : Cond.methodLink RX8 117 yX1_tellBar ∈ xT := xin2 87 (by decide +kernel) rfl
theorem lX8_121 : Cond.methodLink RX8 121 yX1_likeness ∈ xT := xin2 95 (by decide +kernel) rfl
theorem lX8_124 : Cond.methodLink RX8 124 yX8_bestJoining ∈ xT := xin2 120 (by decide +kernel) rfl
theorem lX8_141 : Cond.methodLink RX8 141 yX8_isWay ∈ xT := xin2 215 (by decide +kernel) rfl
theorem lX8_144 : Cond.methodLink RX8 144 yX8_followChain ∈ xT := xin2 218 (by decide +kernel) rfl
theorem lX8_151 : Cond.methodLink RX8 151 yX1_isSameText ∈ xT := xin2 227 (by decide +kernel) rfl
theorem lX8_154 : Cond.methodLink RX8 154 yX8_isThing ∈ xT := xin2 235 (by decide +kernel) rfl
theorem lX8_157 : Cond.methodLink RX8 157 yX8_daysRefusal ∈ xT := xin2 238 (by decide +kernel) rfl
theorem lX8_162 : Cond.methodLink RX8 162 yX5_addRecord ∈ xT := xin3 2 (by decide +kernel) rfl
theorem lX8_173 : Cond.methodLink RX8 173 yX5_takeBack ∈ xT := xin3 16 (by decide +kernel) rfl
theorem lX8_176 : Cond.methodLink RX8 176 yX5_lastPlace ∈ xT := xin3 24 (by decide +kernel) rfl
theorem lX8_180 : Cond.methodLink RX8 180 yX5_quarrelDays ∈ xT := xin3 36 (by decide +kernel) rfl
theorem lX8_183 : Cond.methodLink RX8 183 yX2_replay ∈ xT := xin3 44 (by decide +kernel) rfl
theorem lX8_197 : Cond.methodLink RX8 197 yX2_heldSince ∈ xT := xin3 57 (by decide +kernel) rfl
theorem lX8_201 : Cond.methodLink RX8 201 yX8_needsTwo ∈ xT := xin3 71 (by decide +kernel) rfl
theorem lX8_205 : Cond.methodLink RX8 205 yX6_addSaying ∈ xT := xin3 74 (by decide +kernel) rfl
theorem lX8_208 : Cond.methodLink RX8 208 yX8_shelfRefusal ∈ xT := xin3 82 (by decide +kernel) rfl
theorem lX8_211 : Cond.methodLink RX8 211 yX8_bestRow ∈ xT := xin3 86 (by decide +kernel) rfl
theorem lX8_227 : Cond.methodLink RX8 227 yX0_tellKind ∈ xT := xin3 196 (by decide +kernel) rfl
theorem lX8_230 : Cond.methodLink RX8 230 yX0_tellClash ∈ xT := xin3 204 (by decide +kernel) rfl
theorem lX8_234 : Cond.methodLink RX8 234 yX0_isFake ∈ xT := xin3 212 (by decide +kernel) rfl
theorem lX8_237 : Cond.methodLink RX8 237 yX0_leastWithout ∈ xT := xin3 220 (by decide +kernel) rfl
theorem lX8_246 : Cond.methodLink RX8 246 yJ6_bitCount_0f7a4 ∈ xT := xin3 85 (by decide +kernel) rfl
theorem lX8_251 : Cond.methodLink RX8 251 yJ9_max_7cf53 ∈ xT := xin2 222 (by decide +kernel) rfl
theorem lX8_263 : Cond.methodLink RX8 263 yX3_solve ∈ xT := xin2 152 (by decide +kernel) rfl
theorem lX8_268 : Cond.methodLink RX8 268 yX7_rebuild ∈ xT := xin3 143 (by decide +kernel) rfl
theorem lX0_3 : Cond.methodLink RX0 3 objectInit ∈ xT := xin1 212 (by decide +kernel) rfl
theorem lX0_22 : Cond.methodLink RX0 22 yJ6_bitCount_0f7a4 ∈ xT := xin3 224 (by decide +kernel) rfl
theorem lX0_28 : Cond.methodLink RX0 28 yX0_isFake ∈ xT := xin3 225 (by decide +kernel) rfl
theorem lX1_3 : Cond.methodLink RX1 3 objectInit ∈ xT := xin1 26 (by decide +kernel) rfl
theorem lX1_56 : Cond.methodLink RX1 56 yX1_sensesOf ∈ xT := xin2 30 (by decide +kernel) rfl
theorem lX1_60 : Cond.methodLink RX1 60 yJ9_abs_0f7a4 ∈ xT := xin2 99 (by decide +kernel) rfl
theorem lX1_65 : Cond.methodLink RX1 65 yX1_isBarTold ∈ xT := xin2 102 (by decide +kernel) rfl
theorem lX1_69 : Cond.methodLink RX1 69 yX1_fadesAsItMay ∈ xT := xin2 103 (by decide +kernel) rfl
theorem lX1_72 : Cond.methodLink RX1 72 yJ6_bitCount_0f7a4 ∈ xT := xin2 107 (by decide +kernel) rfl
theorem lX1_77 : Cond.methodLink RX1 77 yJ9_max_7cf53 ∈ xT := xin2 113 (by decide +kernel) rfl
theorem lX2_3 : Cond.methodLink RX2 3 objectInit ∈ xT := xin1 159 (by decide +kernel) rfl
theorem lX2_40 : Cond.methodLink RX2 40 yX5_counts ∈ xT := xin3 48 (by decide +kernel) rfl
theorem lX2_50 : Cond.methodLink RX2 50 yX2_follow ∈ xT := xin3 49 (by decide +kernel) rfl
theorem lX2_54 : Cond.methodLink RX2 54 yX2_replay ∈ xT := xin3 61 (by decide +kernel) rfl
theorem lX2_58 : Cond.methodLink RX2 58 yX5_lastChange ∈ xT := xin3 62 (by decide +kernel) rfl
theorem lX3_3 : Cond.methodLink RX3 3 objectInit ∈ xT := xin2 129 (by decide +kernel) rfl
theorem lX3_39 : Cond.methodLink RX3 39 yX3_readLikes ∈ xT := xin2 156 (by decide +kernel) rfl
theorem lX3_43 : Cond.methodLink RX3 43 yX3_weighStates ∈ xT := xin2 161 (by decide +kernel) rfl
theorem lX3_51 : Cond.methodLink RX3 51 yX3_tellFirst ∈ xT := xin2 175 (by decide +kernel) rfl
theorem lX3_55 : Cond.methodLink RX3 55 yX3_tellWays ∈ xT := xin2 179 (by decide +kernel) rfl
theorem lX3_58 : Cond.methodLink RX3 58 yX1_likeness ∈ xT := xin2 160 (by decide +kernel) rfl
theorem lX3_62 : Cond.methodLink RX3 62 yJ6_bitCount_0f7a4 ∈ xT := xin2 165 (by decide +kernel) rfl
theorem lX3_68 : Cond.methodLink RX3 68 yX3_weighState ∈ xT := xin2 166 (by decide +kernel) rfl
theorem lX3_71 : Cond.methodLink RX3 71 yX3_valueOf ∈ xT := xin2 170 (by decide +kernel) rfl
theorem lX3_75 : Cond.methodLink RX3 75 yJ9_max_7cf53 ∈ xT := xin2 174 (by decide +kernel) rfl
theorem lX3_83 : Cond.methodLink RX3 83 yX3_passOn ∈ xT := xin2 183 (by decide +kernel) rfl
theorem lX3_90 : Cond.methodLink RX3 90 yX3_sumWays ∈ xT := xin2 195 (by decide +kernel) rfl
theorem lX3_95 : Cond.methodLink RX3 95 yX3_addWays ∈ xT := xin2 187 (by decide +kernel) rfl
theorem lX3_100 : Cond.methodLink RX3 100 yJ9_min_7cf53 ∈ xT := xin2 192 (by decide +kernel) rfl
theorem lX4_3 : Cond.methodLink RX4 3 objectInit ∈ xT := xin1 84 (by decide +kernel) rfl
theorem lX5_3 : Cond.methodLink RX5 3 objectInit ∈ xT := xin1 116 (by decide +kernel) rfl
theorem lX5_41 : Cond.methodLink RX5 41 yX5_counts ∈ xT := xin3 28 (by decide +kernel) rfl
theorem lX5_45 : Cond.methodLink RX5 45 yJ9_max_7cf53 ∈ xT := xin3 66 (by decide +kernel) rfl
theorem lX6_3 : Cond.methodLink RX6 3 objectInit ∈ xT := xin1 184 (by decide +kernel) rfl
theorem lX7_3 : Cond.methodLink RX7 3 objectInit ∈ xT := xin3 95 (by decide +kernel) rfl
theorem lX7_60 : Cond.methodLink RX7 60 yX7_readThings ∈ xT := xin3 147 (by decide +kernel) rfl
theorem lX7_64 : Cond.methodLink RX7 64 yX7_clearTrust ∈ xT := xin3 151 (by decide +kernel) rfl
theorem lX7_79 : Cond.methodLink RX7 79 yX7_addTrust ∈ xT := xin3 155 (by decide +kernel) rfl
theorem lX7_83 : Cond.methodLink RX7 83 yX7_weighStates ∈ xT := xin3 159 (by decide +kernel) rfl
theorem lX7_86 : Cond.methodLink RX7 86 yX7_tellRow ∈ xT := xin3 176 (by decide +kernel) rfl
theorem lX7_89 : Cond.methodLink RX7 89 yX7_readGains ∈ xT := xin3 163 (by decide +kernel) rfl
theorem lX7_92 : Cond.methodLink RX7 92 yX7_weighState ∈ xT := xin3 167 (by decide +kernel) rfl
theorem lX7_96 : Cond.methodLink RX7 96 yX7_valueOf ∈ xT := xin3 171 (by decide +kernel) rfl
theorem lX7_100 : Cond.methodLink RX7 100 yJ9_max_7cf53 ∈ xT := xin3 175 (by decide +kernel) rfl
theorem lX7_105 : Cond.methodLink RX7 105 yX7_firstBest ∈ xT := xin3 180 (by decide +kernel) rfl
theorem lL_9 : Cond.methodLink RL 9 yX8_init ∈ xT := xin1 15 (by decide +kernel) rfl
theorem lL_12 : Cond.methodLink RL 12 yX9_init ∈ xT := xin3 232 (by decide +kernel) rfl
theorem lL_13 : Cond.methodLink RL 13 yX8_means ∈ xT := xin2 15 (by decide +kernel) rfl
theorem lL_17 : Cond.methodLink RL 17 yX9_means ∈ xT := xin4 135 (by decide +kernel) rfl
theorem lL_18 : Cond.methodLink RL 18 yX8_sense ∈ xT := xin2 34 (by decide +kernel) rfl
theorem lL_22 : Cond.methodLink RL 22 yX9_sense ∈ xT := xin4 146 (by decide +kernel) rfl
theorem lL_23 : Cond.methodLink RL 23 yX8_year ∈ xT := xin2 38 (by decide +kernel) rfl
theorem lL_26 : Cond.methodLink RL 26 yX9_year ∈ xT := xin4 154 (by decide +kernel) rfl
theorem lL_27 : Cond.methodLink RL 27 yX8_entry ∈ xT := xin2 49 (by decide +kernel) rfl
theorem lL_31 : Cond.methodLink RL 31 yX9_entry ∈ xT := xin4 161 (by decide +kernel) rfl
theorem lL_32 : Cond.methodLink RL 32 yX8_set ∈ xT := xin2 60 (by decide +kernel) rfl
theorem lL_35 : Cond.methodLink RL 35 yX9_set ∈ xT := xin4 166 (by decide +kernel) rfl
theorem lL_36 : Cond.methodLink RL 36 yX8_bar ∈ xT := xin2 72 (by decide +kernel) rfl
theorem lL_40 : Cond.methodLink RL 40 yX9_bar ∈ xT := xin4 170 (by decide +kernel) rfl
theorem lL_41 : Cond.methodLink RL 41 yX8_like ∈ xT := xin2 91 (by decide +kernel) rfl
theorem lL_44 : Cond.methodLink RL 44 yX9_like ∈ xT := xin4 182 (by decide +kernel) rfl
theorem lL_45 : Cond.methodLink RL 45 yX8_join ∈ xT := xin2 116 (by decide +kernel) rfl
theorem lL_48 : Cond.methodLink RL 48 yX9_join ∈ xT := xin4 199 (by decide +kernel) rfl
theorem lL_49 : Cond.methodLink RL 49 yX8_joined ∈ xT := xin2 199 (by decide +kernel) rfl
theorem lL_53 : Cond.methodLink RL 53 yX9_joined ∈ xT := xin4 224 (by decide +kernel) rfl
theorem lL_54 : Cond.methodLink RL 54 yX8_bests ∈ xT := xin2 203 (by decide +kernel) rfl
theorem lL_57 : Cond.methodLink RL 57 yX9_bests ∈ xT := xin4 228 (by decide +kernel) rfl
theorem lL_58 : Cond.methodLink RL 58 yX8_sure ∈ xT := xin2 207 (by decide +kernel) rfl
theorem lL_61 : Cond.methodLink RL 61 yX9_sure ∈ xT := xin4 232 (by decide +kernel) rfl
theorem lL_62 : Cond.methodLink RL 62 yX8_chain ∈ xT := xin2 211 (by decide +kernel) rfl
theorem lL_65 : Cond.methodLink RL 65 yX9_chain ∈ xT := xin5 0 (by decide +kernel) rfl
theorem lL_66 : Cond.methodLink RL 66 yX8_copied ∈ xT := xin2 223 (by decide +kernel) rfl
theorem lL_69 : Cond.methodLink RL 69 yX9_copied ∈ xT := xin5 4 (by decide +kernel) rfl
theorem lL_70 : Cond.methodLink RL 70 yX8_sight ∈ xT := xin2 231 (by decide +kernel) rfl
theorem lL_73 : Cond.methodLink RL 73 yX9_sight ∈ xT := xin5 8 (by decide +kernel) rfl
theorem lL_74 : Cond.methodLink RL 74 yX8_move ∈ xT := xin3 7 (by decide +kernel) rfl
theorem lL_77 : Cond.methodLink RL 77 yX9_move ∈ xT := xin5 17 (by decide +kernel) rfl
theorem lL_78 : Cond.methodLink RL 78 yX8_withdraw ∈ xT := xin3 11 (by decide +kernel) rfl
theorem lL_82 : Cond.methodLink RL 82 yX9_withdraw ∈ xT := xin5 21 (by decide +kernel) rfl
theorem lL_83 : Cond.methodLink RL 83 yX8_where ∈ xT := xin3 20 (by decide +kernel) rfl
theorem lL_86 : Cond.methodLink RL 86 yX9_where ∈ xT := xin5 25 (by decide +kernel) rfl
theorem lL_87 : Cond.methodLink RL 87 yX8_quarrels ∈ xT := xin3 32 (by decide +kernel) rfl
theorem lL_90 : Cond.methodLink RL 90 yX9_quarrels ∈ xT := xin5 33 (by decide +kernel) rfl
theorem lL_91 : Cond.methodLink RL 91 yX8_holds ∈ xT := xin3 40 (by decide +kernel) rfl
theorem lL_94 : Cond.methodLink RL 94 yX9_holds ∈ xT := xin5 37 (by decide +kernel) rfl
theorem lL_95 : Cond.methodLink RL 95 yX8_since ∈ xT := xin3 53 (by decide +kernel) rfl
theorem lL_98 : Cond.methodLink RL 98 yX9_since ∈ xT := xin5 49 (by decide +kernel) rfl
theorem lL_99 : Cond.methodLink RL 99 yX8_visitor ∈ xT := xin3 67 (by decide +kernel) rfl
theorem lL_102 : Cond.methodLink RL 102 yX9_visitor ∈ xT := xin5 57 (by decide +kernel) rfl
theorem lL_103 : Cond.methodLink RL 103 yX8_shelf ∈ xT := xin3 78 (by decide +kernel) rfl
theorem lL_106 : Cond.methodLink RL 106 yX9_shelf ∈ xT := xin5 61 (by decide +kernel) rfl
theorem lL_107 : Cond.methodLink RL 107 yX8_row ∈ xT := xin3 184 (by decide +kernel) rfl
theorem lL_110 : Cond.methodLink RL 110 yX9_row ∈ xT := xin5 81 (by decide +kernel) rfl
theorem lL_111 : Cond.methodLink RL 111 yX8_quarrel ∈ xT := xin3 188 (by decide +kernel) rfl
theorem lL_114 : Cond.methodLink RL 114 yX9_quarrel ∈ xT := xin5 85 (by decide +kernel) rfl
theorem lL_115 : Cond.methodLink RL 115 yX8_part ∈ xT := xin3 192 (by decide +kernel) rfl
theorem lL_118 : Cond.methodLink RL 118 yX9_part ∈ xT := xin5 89 (by decide +kernel) rfl
theorem lL_119 : Cond.methodLink RL 119 yX8_clash ∈ xT := xin3 200 (by decide +kernel) rfl
theorem lL_123 : Cond.methodLink RL 123 yX9_clash ∈ xT := xin5 93 (by decide +kernel) rfl
theorem lL_124 : Cond.methodLink RL 124 yX8_fake ∈ xT := xin3 208 (by decide +kernel) rfl
theorem lL_127 : Cond.methodLink RL 127 yX9_fake ∈ xT := xin5 97 (by decide +kernel) rfl
theorem lL_128 : Cond.methodLink RL 128 yX8_least ∈ xT := xin3 216 (by decide +kernel) rfl
theorem lL_131 : Cond.methodLink RL 131 yX9_least ∈ xT := xin5 108 (by decide +kernel) rfl
theorem lL_132 : Cond.methodLink RL 132 yX8_count ∈ xT := xin3 226 (by decide +kernel) rfl
theorem lL_135 : Cond.methodLink RL 135 yX9_count ∈ xT := xin5 112 (by decide +kernel) rfl
theorem lX9_1 : Cond.methodLink RX9 1 objectInit ∈ xT := xin3 235 (by decide +kernel) rfl
theorem lX9_126 : Cond.methodLink RX9 126 yX9_isIn ∈ xT := xin4 139 (by decide +kernel) rfl
theorem lX9_130 : Cond.methodLink RX9 130 yX9_refuse ∈ xT := xin4 142 (by decide +kernel) rfl
theorem lX9_134 : Cond.methodLink RX9 134 yX9_senseOf ∈ xT := xin4 150 (by decide +kernel) rfl
theorem lX9_137 : Cond.methodLink RX9 137 yX9_wrong ∈ xT := xin4 158 (by decide +kernel) rfl
theorem lX9_145 : Cond.methodLink RX9 145 yX9_isEntry ∈ xT := xin4 174 (by decide +kernel) rfl
theorem lX9_148 : Cond.methodLink RX9 148 yX9_isBarred ∈ xT := xin4 178 (by decide +kernel) rfl
theorem lX9_151 : Cond.methodLink RX9 151 yJ9_abs_0f7a4 ∈ xT := xin4 190 (by decide +kernel) rfl
theorem lX9_156 : Cond.methodLink RX9 156 yX9_senses ∈ xT := xin4 191 (by decide +kernel) rfl
theorem lX9_159 : Cond.methodLink RX9 159 yX9_bitsOf ∈ xT := xin4 195 (by decide +kernel) rfl
theorem lX9_162 : Cond.methodLink RX9 162 yJ9_max_7cf53 ∈ xT := xin4 198 (by decide +kernel) rfl
theorem lX9_166 : Cond.methodLink RX9 166 yX9_likeOf ∈ xT := xin4 186 (by decide +kernel) rfl
theorem lX9_170 : Cond.methodLink RX9 170 yX9_at ∈ xT := xin4 219 (by decide +kernel) rfl
theorem lX9_174 : Cond.methodLink RX9 174 yJ9_min_7cf53 ∈ xT := xin4 223 (by decide +kernel) rfl
theorem lX9_177 : Cond.methodLink RX9 177 yX9_measure ∈ xT := xin4 211 (by decide +kernel) rfl
theorem lX9_181 : Cond.methodLink RX9 181 yX9_finds ∈ xT := xin4 215 (by decide +kernel) rfl
theorem lX9_184 : Cond.methodLink RX9 184 yX9_areBooks ∈ xT := xin4 203 (by decide +kernel) rfl
theorem lX9_187 : Cond.methodLink RX9 187 yX9_joins ∈ xT := xin4 207 (by decide +kernel) rfl
theorem lX9_190 : Cond.methodLink RX9 190 yX9_isSure ∈ xT := xin4 236 (by decide +kernel) rfl
theorem lX9_195 : Cond.methodLink RX9 195 yX9_wrongDays ∈ xT := xin5 12 (by decide +kernel) rfl
theorem lX9_205 : Cond.methodLink RX9 205 yX9_isSight ∈ xT := xin5 29 (by decide +kernel) rfl
theorem lX9_208 : Cond.methodLink RX9 208 yX9_isMove ∈ xT := xin5 45 (by decide +kernel) rfl
theorem lX9_220 : Cond.methodLink RX9 220 yX9_goes ∈ xT := xin5 41 (by decide +kernel) rfl
theorem lX9_224 : Cond.methodLink RX9 224 yX9_changed ∈ xT := xin5 53 (by decide +kernel) rfl
theorem lX9_230 : Cond.methodLink RX9 230 yX9_stands ∈ xT := xin5 77 (by decide +kernel) rfl
theorem lX9_236 : Cond.methodLink RX9 236 yX9_wins ∈ xT := xin5 73 (by decide +kernel) rfl
theorem lX9_239 : Cond.methodLink RX9 239 yX9_wrongShelf ∈ xT := xin5 65 (by decide +kernel) rfl
theorem lX9_242 : Cond.methodLink RX9 242 yX9_shelves ∈ xT := xin5 69 (by decide +kernel) rfl
theorem lX9_245 : Cond.methodLink RX9 245 yX9_isBeast ∈ xT := xin5 101 (by decide +kernel) rfl
theorem lX9_249 : Cond.methodLink RX9 249 yX9_isFake ∈ xT := xin5 104 (by decide +kernel) rfl
theorem lX8_30 : Cond.methodLinkNest RX8 30 yX4_init RX8 ∈ tables_1 := List.mem_of_getElem? (i := 81) (by decide +kernel)
theorem lX8_33 : Cond.methodLinkNest RX8 33 yX5_init RX8 ∈ tables_1 := List.mem_of_getElem? (i := 113) (by decide +kernel)
theorem lX8_43 : Cond.methodLinkNest RX8 43 yX2_init RX8 ∈ tables_1 := List.mem_of_getElem? (i := 156) (by decide +kernel)
theorem lX8_50 : Cond.methodLinkNest RX8 50 yX6_init RX8 ∈ tables_1 := List.mem_of_getElem? (i := 181) (by decide +kernel)
theorem lX8_57 : Cond.methodLinkNest RX8 57 yX0_init RX8 ∈ tables_1 := List.mem_of_getElem? (i := 209) (by decide +kernel)
theorem lX8_262 : Cond.methodLinkNest RX8 262 yX3_init RX8 ∈ tables_1 := List.mem_of_getElem? (i := 366) (by decide +kernel)
theorem lX8_267 : Cond.methodLinkNest RX8 267 yX7_init RX8 ∈ tables_1 := List.mem_of_getElem? (i := 572) (by decide +kernel)
theorem oi_i : Cond.instanceMethod objectInit ∈ xT := xin1 19 (by decide +kernel) rfl
set_option maxRecDepth 20000 in
theorem oi_c : Cond.code objectInit ⟨#[0xb1]⟩ 1 none ∈ xT := xin1 20 rfl rfl
theorem ac_i : Cond.arrayClass .int ∈ xT := xin1 76 (by decide +kernel) rfl
theorem ac_l : Cond.arrayClass .long ∈ xT := xin1 77 (by decide +kernel) rfl
theorem ac_z : Cond.arrayClass .boolean ∈ xT := xin1 110 (by decide +kernel) rfl
