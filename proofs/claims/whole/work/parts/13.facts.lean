/-! FACTS of the tables: fields read and written, for the nine tables and the three valleys at places that are variables, for the rest at their own -/
def isVal (b : Nat) : Prop := b = 2 ∨ b = 9 ∨ b = 16
theorem F7_7 : gGet 7 7 0 = some (.inr 1) := by decide +kernel
theorem F7_16 : gGet 7 16 0 = some (.inr 2) := by decide +kernel
theorem F7_20 : gGet 7 20 0 = some (.inr 9) := by decide +kernel
theorem F7_23 : gGet 7 23 0 = some (.inr 16) := by decide +kernel
theorem F7_29 : gGet 7 29 0 = some (.inr 23) := by decide +kernel
theorem F7_38 : gGet 7 38 0 = some (.inr 35) := by decide +kernel
theorem F7_47 : gGet 7 47 0 = some (.inr 37) := by decide +kernel
theorem F7_56 : gGet 7 56 0 = some (.inr 40) := by decide +kernel
theorem F7_63 : gGet 7 63 0 = some (.inr 43) := by decide +kernel
theorem F7_67 : gGet 7 67 0 = some (.inl 10) := by decide +kernel
theorem P7_67 : gPut 7 67 0 = some (10, false) := by decide +kernel
theorem F6_14 {p : Nat} (h : isVal p) : gGet 6 14 p = some (.inr (p + 1)) := by rcases h with rfl | rfl | rfl <;> decide +kernel
theorem F6_20 {p : Nat} (h : isVal p) : gGet 6 20 p = some (.inr (p + 3)) := by rcases h with rfl | rfl | rfl <;> decide +kernel
theorem F6_23 {p : Nat} (h : isVal p) : gGet 6 23 p = some (.inr (p + 5)) := by rcases h with rfl | rfl | rfl <;> decide +kernel
theorem F6_26 {p : Nat} (h : isVal p) : gGet 6 26 p = some (.inl 3) := by rcases h with rfl | rfl | rfl <;> decide +kernel
theorem P6_26 {p : Nat} (h : isVal p) : gPut 6 26 p = some (3, false) := by rcases h with rfl | rfl | rfl <;> decide +kernel
theorem F6_30 {p : Nat} (h : isVal p) : gGet 6 30 p = some (.inl 7) := by rcases h with rfl | rfl | rfl <;> decide +kernel
theorem P6_30 {p : Nat} (h : isVal p) : gPut 6 30 p = some (7, false) := by rcases h with rfl | rfl | rfl <;> decide +kernel
theorem F5_9 {p : Nat} (h : isTab p) : gGet 5 9 p = some (.inr (p + 1)) := by rcases h with rfl | rfl | rfl | rfl | rfl | rfl | rfl | rfl | rfl <;> decide +kernel
theorem F5_15 {p : Nat} (h : isTab p) : gGet 5 15 p = some (.inl 1) := by rcases h with rfl | rfl | rfl | rfl | rfl | rfl | rfl | rfl | rfl <;> decide +kernel
theorem F5_19 {p : Nat} (h : isTab p) : gGet 5 19 p = some (.inl 2) := by rcases h with rfl | rfl | rfl | rfl | rfl | rfl | rfl | rfl | rfl <;> decide +kernel
theorem F4_9 : gGet 4 9 23 = some (.inr 24) := by decide +kernel
theorem F4_15 : gGet 4 15 23 = some (.inr 25) := by decide +kernel
theorem F4_20 : gGet 4 20 23 = some (.inr 26) := by decide +kernel
theorem F1_11 : gGet 1 11 35 = some (.inr 36) := by decide +kernel
theorem F1_17 : gGet 1 17 35 = some (.inr 23) := by decide +kernel
theorem F1_21 : gGet 1 21 35 = some (.inr 16) := by decide +kernel
theorem F2_9 : gGet 2 9 37 = some (.inr 38) := by decide +kernel
theorem F2_15 : gGet 2 15 37 = some (.inr 39) := by decide +kernel
theorem F2_18 : gGet 2 18 37 = some (.inr 2) := by decide +kernel
theorem F3_9 : gGet 3 9 40 = some (.inr 41) := by decide +kernel
theorem F3_15 : gGet 3 15 40 = some (.inr 42) := by decide +kernel
theorem F3_18 : gGet 3 18 40 = some (.inr 2) := by decide +kernel
theorem F3_22 : gGet 3 22 40 = some (.inr 37) := by decide +kernel
theorem F0_11 : gGet 0 11 43 = some (.inr 44) := by decide +kernel
theorem F8_7 : gGet 8 7 45 = some (.inl 3) := by decide +kernel
theorem P8_7 : gPut 8 7 45 = some (3, false) := by decide +kernel
theorem F8_13 : gGet 8 13 45 = some (.inl 7) := by decide +kernel
theorem P8_13 : gPut 8 13 45 = some (7, false) := by decide +kernel
theorem F8_16 : gGet 8 16 45 = some (.inl 9) := by decide +kernel
theorem P8_16 : gPut 8 16 45 = some (9, false) := by decide +kernel
theorem F8_19 : gGet 8 19 45 = some (.inr 46) := by decide +kernel
theorem F8_23 : gGet 8 23 45 = some (.inr 47) := by decide +kernel
theorem F8_26 : gGet 8 26 45 = some (.inr 48) := by decide +kernel
theorem F8_29 : gGet 8 29 45 = some (.inr 49) := by decide +kernel
theorem F8_32 : gGet 8 32 45 = some (.inr 50) := by decide +kernel
theorem F8_35 : gGet 8 35 45 = some (.inr 51) := by decide +kernel
theorem F8_38 : gGet 8 38 45 = some (.inr 52) := by decide +kernel
theorem F8_41 : gGet 8 41 45 = some (.inr 53) := by decide +kernel
theorem F8_44 : gGet 8 44 45 = some (.inr 54) := by decide +kernel
theorem F8_47 : gGet 8 47 45 = some (.inr 55) := by decide +kernel
theorem F8_50 : gGet 8 50 45 = some (.inr 56) := by decide +kernel
theorem F8_53 : gGet 8 53 45 = some (.inr 57) := by decide +kernel
theorem F8_56 : gGet 8 56 45 = some (.inr 58) := by decide +kernel
theorem F8_59 : gGet 8 59 45 = some (.inr 59) := by decide +kernel
theorem F8_62 : gGet 8 62 45 = some (.inr 60) := by decide +kernel
theorem F8_65 : gGet 8 65 45 = some (.inr 61) := by decide +kernel
theorem F8_68 : gGet 8 68 45 = some (.inr 62) := by decide +kernel
theorem F8_72 : gGet 8 72 45 = some (.inr 63) := by decide +kernel
theorem F8_75 : gGet 8 75 45 = some (.inr 64) := by decide +kernel
theorem F8_78 : gGet 8 78 45 = some (.inr 65) := by decide +kernel
theorem F8_81 : gGet 8 81 45 = some (.inr 66) := by decide +kernel
theorem F8_84 : gGet 8 84 45 = some (.inr 67) := by decide +kernel
theorem F8_87 : gGet 8 87 45 = some (.inr 68) := by decide +kernel
theorem F8_90 : gGet 8 90 45 = some (.inr 69) := by decide +kernel
theorem F8_93 : gGet 8 93 45 = some (.inr 70) := by decide +kernel
theorem F8_96 : gGet 8 96 45 = some (.inr 71) := by decide +kernel
theorem F8_99 : gGet 8 99 45 = some (.inr 72) := by decide +kernel
theorem F8_102 : gGet 8 102 45 = some (.inr 73) := by decide +kernel
theorem F8_105 : gGet 8 105 45 = some (.inr 74) := by decide +kernel
theorem F8_108 : gGet 8 108 45 = some (.inr 75) := by decide +kernel
theorem F8_111 : gGet 8 111 45 = some (.inr 76) := by decide +kernel
theorem F8_114 : gGet 8 114 45 = some (.inr 77) := by decide +kernel
theorem F5_22 {p : Nat} (h : isTab p) : gGet 5 22 p = some (.inl 3) := by rcases h with rfl | rfl | rfl | rfl | rfl | rfl | rfl | rfl | rfl <;> decide +kernel
theorem P5_22 {p : Nat} (h : isTab p) : gPut 5 22 p = some (3, false) := by rcases h with rfl | rfl | rfl | rfl | rfl | rfl | rfl | rfl | rfl <;> decide +kernel
theorem F8_117 : gGet 8 117 45 = some (.inl 0) := by decide +kernel
theorem P8_117 : gPut 8 117 45 = some (0, false) := by decide +kernel
theorem F6_43 {p : Nat} (h : isVal p) : gGet 6 43 p = some (.inl 6) := by rcases h with rfl | rfl | rfl <;> decide +kernel
theorem P6_43 {p : Nat} (h : isVal p) : gPut 6 43 p = some (6, false) := by rcases h with rfl | rfl | rfl <;> decide +kernel
theorem F8_171 : gGet 8 171 45 = some (.inl 6) := by decide +kernel
theorem P8_171 : gPut 8 171 45 = some (6, false) := by decide +kernel
theorem F6_37 {p : Nat} (h : isVal p) : gGet 6 37 p = some (.inl 4) := by rcases h with rfl | rfl | rfl <;> decide +kernel
theorem P6_37 {p : Nat} (h : isVal p) : gPut 6 37 p = some (4, false) := by rcases h with rfl | rfl | rfl <;> decide +kernel
theorem F6_40 {p : Nat} (h : isVal p) : gGet 6 40 p = some (.inl 5) := by rcases h with rfl | rfl | rfl <;> decide +kernel
theorem P6_40 {p : Nat} (h : isVal p) : gPut 6 40 p = some (5, false) := by rcases h with rfl | rfl | rfl <;> decide +kernel
theorem F8_123 : gGet 8 123 45 = some (.inl 4) := by decide +kernel
theorem P8_123 : gPut 8 123 45 = some (4, false) := by decide +kernel
theorem F8_126 : gGet 8 126 45 = some (.inl 5) := by decide +kernel
theorem P8_126 : gPut 8 126 45 = some (5, false) := by decide +kernel
theorem F8_120 : gGet 8 120 45 = some (.inl 1) := by decide +kernel
theorem P8_120 : gPut 8 120 45 = some (1, false) := by decide +kernel
theorem F8_162 : gGet 8 162 45 = some (.inl 2) := by decide +kernel
theorem P8_162 : gPut 8 162 45 = some (2, false) := by decide +kernel
theorem F6_46 {p : Nat} (h : isVal p) : gGet 6 46 p = some (.inl 8) := by rcases h with rfl | rfl | rfl <;> decide +kernel
theorem P6_46 {p : Nat} (h : isVal p) : gPut 6 46 p = some (8, false) := by rcases h with rfl | rfl | rfl <;> decide +kernel
theorem F1_35 : gGet 1 35 35 = some (.inl 3) := by decide +kernel
theorem P1_35 : gPut 1 35 35 = some (3, false) := by decide +kernel
theorem F1_42 : gGet 1 42 35 = some (.inl 4) := by decide +kernel
theorem P1_42 : gPut 1 42 35 = some (4, false) := by decide +kernel
theorem F1_45 : gGet 1 45 35 = some (.inl 6) := by decide +kernel
theorem P1_45 : gPut 1 45 35 = some (6, false) := by decide +kernel
theorem F1_51 : gGet 1 51 35 = some (.inl 7) := by decide +kernel
theorem P1_51 : gPut 1 51 35 = some (7, false) := by decide +kernel
theorem F1_187 : gGet 1 187 35 = some (.inl 5) := by decide +kernel
theorem P1_187 : gPut 1 187 35 = some (5, false) := by decide +kernel
theorem F8_190 : gGet 8 190 45 = some (.inl 30) := by decide +kernel
theorem P8_190 : gPut 8 190 45 = some (30, false) := by decide +kernel
theorem F8_184 : gGet 8 184 45 = some (.inl 31) := by decide +kernel
theorem P8_184 : gPut 8 184 45 = some (31, false) := by decide +kernel
theorem F8_187 : gGet 8 187 45 = some (.inl 32) := by decide +kernel
theorem P8_187 : gPut 8 187 45 = some (32, false) := by decide +kernel
theorem F8_181 : gGet 8 181 45 = some (.inl 34) := by decide +kernel
theorem P8_181 : gPut 8 181 45 = some (34, false) := by decide +kernel
theorem F8_223 : gGet 8 223 45 = some (.inl 8) := by decide +kernel
theorem P8_223 : gPut 8 223 45 = some (8, false) := by decide +kernel
theorem F8_200 : gGet 8 200 45 = some (.inl 33) := by decide +kernel
theorem P8_200 : gPut 8 200 45 = some (33, false) := by decide +kernel
theorem F3_64 : gGet 3 64 40 = some (.inl 4) := by decide +kernel
theorem P3_64 : gPut 3 64 40 = some (4, false) := by decide +kernel
theorem F8_277 : gGet 8 277 45 = some (.inl 46) := by decide +kernel
theorem P8_277 : gPut 8 277 45 = some (46, false) := by decide +kernel
theorem F0_15 : gGet 0 15 43 = some (.inl 1) := by decide +kernel
theorem P0_15 : gPut 0 15 43 = some (1, false) := by decide +kernel
theorem F0_19 : gGet 0 19 43 = some (.inl 2) := by decide +kernel
theorem P0_19 : gPut 0 19 43 = some (2, false) := by decide +kernel
theorem F0_22 : gGet 0 22 43 = some (.inl 3) := by decide +kernel
theorem P0_22 : gPut 0 22 43 = some (3, false) := by decide +kernel
theorem F0_25 : gGet 0 25 43 = some (.inl 4) := by decide +kernel
theorem P0_25 : gPut 0 25 43 = some (4, false) := by decide +kernel
theorem F8_304 : gGet 8 304 45 = some (.inl 48) := by decide +kernel
theorem P8_304 : gPut 8 304 45 = some (48, false) := by decide +kernel
theorem F7_316 : gGet 7 316 0 = some (.inl 9) := by decide +kernel
theorem P7_316 : gPut 7 316 0 = some (9, true) := by decide +kernel
theorem F8_319 : gGet 8 319 45 = some (.inl 49) := by decide +kernel
theorem P8_319 : gPut 8 319 45 = some (49, true) := by decide +kernel
theorem F3_42 {p : Nat} (h : isTab p) : gGet 3 42 p = some (.inl 3) := by rcases h with rfl | rfl | rfl | rfl | rfl | rfl | rfl | rfl | rfl <;> decide +kernel
theorem P3_42 {p : Nat} (h : isTab p) : gPut 3 42 p = some (3, false) := by rcases h with rfl | rfl | rfl | rfl | rfl | rfl | rfl | rfl | rfl <;> decide +kernel
theorem F6_64 {p : Nat} (h : isTab p) : gGet 6 64 p = some (.inl 3) := by rcases h with rfl | rfl | rfl | rfl | rfl | rfl | rfl | rfl | rfl <;> decide +kernel
theorem P6_64 {p : Nat} (h : isTab p) : gPut 6 64 p = some (3, false) := by rcases h with rfl | rfl | rfl | rfl | rfl | rfl | rfl | rfl | rfl <;> decide +kernel
theorem F2_73 {p : Nat} (h : isTab p) : gGet 2 73 p = some (.inl 3) := by rcases h with rfl | rfl | rfl | rfl | rfl | rfl | rfl | rfl | rfl <;> decide +kernel
theorem P2_73 {p : Nat} (h : isTab p) : gPut 2 73 p = some (3, false) := by rcases h with rfl | rfl | rfl | rfl | rfl | rfl | rfl | rfl | rfl <;> decide +kernel
theorem F7_293 {p : Nat} (h : isTab p) : gGet 7 293 p = some (.inl 3) := by rcases h with rfl | rfl | rfl | rfl | rfl | rfl | rfl | rfl | rfl <;> decide +kernel
theorem P7_293 {p : Nat} (h : isTab p) : gPut 7 293 p = some (3, false) := by rcases h with rfl | rfl | rfl | rfl | rfl | rfl | rfl | rfl | rfl <;> decide +kernel
theorem F1_85 {p : Nat} (h : isVal p) : gGet 1 85 p = some (.inr (p + 1)) := by rcases h with rfl | rfl | rfl <;> decide +kernel
theorem F7_106 {p : Nat} (h : isVal p) : gGet 7 106 p = some (.inr (p + 1)) := by rcases h with rfl | rfl | rfl <;> decide +kernel
theorem F2_57 {p : Nat} (h : isVal p) : gGet 2 57 p = some (.inr (p + 1)) := by rcases h with rfl | rfl | rfl <;> decide +kernel
theorem F1_128 {p : Nat} (h : isVal p) : gGet 1 128 p = some (.inr (p + 3)) := by rcases h with rfl | rfl | rfl <;> decide +kernel
theorem F2_70 {p : Nat} (h : isVal p) : gGet 2 70 p = some (.inr (p + 3)) := by rcases h with rfl | rfl | rfl <;> decide +kernel
theorem F7_156 {p : Nat} (h : isVal p) : gGet 7 156 p = some (.inr (p + 3)) := by rcases h with rfl | rfl | rfl <;> decide +kernel
theorem F3_38 {p : Nat} (h : isVal p) : gGet 3 38 p = some (.inr (p + 5)) := by rcases h with rfl | rfl | rfl <;> decide +kernel
theorem F1_139 {p : Nat} (h : isVal p) : gGet 1 139 p = some (.inr (p + 5)) := by rcases h with rfl | rfl | rfl <;> decide +kernel
theorem F7_168 {p : Nat} (h : isVal p) : gGet 7 168 p = some (.inr (p + 5)) := by rcases h with rfl | rfl | rfl <;> decide +kernel
theorem F1_157 {p : Nat} (h : isVal p) : gGet 1 157 p = some (.inl 3) := by rcases h with rfl | rfl | rfl <;> decide +kernel
theorem P1_157 {p : Nat} (h : isVal p) : gPut 1 157 p = some (3, false) := by rcases h with rfl | rfl | rfl <;> decide +kernel
theorem F2_80 {p : Nat} (h : isVal p) : gGet 2 80 p = some (.inl 3) := by rcases h with rfl | rfl | rfl <;> decide +kernel
theorem P2_80 {p : Nat} (h : isVal p) : gPut 2 80 p = some (3, false) := by rcases h with rfl | rfl | rfl <;> decide +kernel
theorem F7_178 {p : Nat} (h : isVal p) : gGet 7 178 p = some (.inl 3) := by rcases h with rfl | rfl | rfl <;> decide +kernel
theorem P7_178 {p : Nat} (h : isVal p) : gPut 7 178 p = some (3, false) := by rcases h with rfl | rfl | rfl <;> decide +kernel
theorem F1_166 {p : Nat} (h : isVal p) : gGet 1 166 p = some (.inl 4) := by rcases h with rfl | rfl | rfl <;> decide +kernel
theorem P1_166 {p : Nat} (h : isVal p) : gPut 1 166 p = some (4, false) := by rcases h with rfl | rfl | rfl <;> decide +kernel
theorem F7_190 {p : Nat} (h : isVal p) : gGet 7 190 p = some (.inl 4) := by rcases h with rfl | rfl | rfl <;> decide +kernel
theorem P7_190 {p : Nat} (h : isVal p) : gPut 7 190 p = some (4, false) := by rcases h with rfl | rfl | rfl <;> decide +kernel
theorem F2_105 {p : Nat} (h : isVal p) : gGet 2 105 p = some (.inl 4) := by rcases h with rfl | rfl | rfl <;> decide +kernel
theorem P2_105 {p : Nat} (h : isVal p) : gPut 2 105 p = some (4, false) := by rcases h with rfl | rfl | rfl <;> decide +kernel
theorem F1_169 {p : Nat} (h : isVal p) : gGet 1 169 p = some (.inl 5) := by rcases h with rfl | rfl | rfl <;> decide +kernel
theorem P1_169 {p : Nat} (h : isVal p) : gPut 1 169 p = some (5, false) := by rcases h with rfl | rfl | rfl <;> decide +kernel
theorem F7_193 {p : Nat} (h : isVal p) : gGet 7 193 p = some (.inl 5) := by rcases h with rfl | rfl | rfl <;> decide +kernel
theorem P7_193 {p : Nat} (h : isVal p) : gPut 7 193 p = some (5, false) := by rcases h with rfl | rfl | rfl <;> decide +kernel
theorem F1_177 {p : Nat} (h : isVal p) : gGet 1 177 p = some (.inl 6) := by rcases h with rfl | rfl | rfl <;> decide +kernel
theorem P1_177 {p : Nat} (h : isVal p) : gPut 1 177 p = some (6, false) := by rcases h with rfl | rfl | rfl <;> decide +kernel
theorem F7_184 {p : Nat} (h : isVal p) : gGet 7 184 p = some (.inl 6) := by rcases h with rfl | rfl | rfl <;> decide +kernel
theorem P7_184 {p : Nat} (h : isVal p) : gPut 7 184 p = some (6, false) := by rcases h with rfl | rfl | rfl <;> decide +kernel
theorem F7_303 {p : Nat} (h : isVal p) : gGet 7 303 p = some (.inl 7) := by rcases h with rfl | rfl | rfl <;> decide +kernel
theorem P7_303 {p : Nat} (h : isVal p) : gPut 7 303 p = some (7, false) := by rcases h with rfl | rfl | rfl <;> decide +kernel
theorem F7_326 {p : Nat} (h : isVal p) : gGet 7 326 p = some (.inl 8) := by rcases h with rfl | rfl | rfl <;> decide +kernel
theorem P7_326 {p : Nat} (h : isVal p) : gPut 7 326 p = some (8, false) := by rcases h with rfl | rfl | rfl <;> decide +kernel
theorem F7_208 : gGet 7 208 35 = some (.inl 7) := by decide +kernel
theorem P7_208 : gPut 7 208 35 = some (7, false) := by decide +kernel
theorem F7_323 : gGet 7 323 43 = some (.inl 1) := by decide +kernel
theorem P7_323 : gPut 7 323 43 = some (1, false) := by decide +kernel
theorem A_1 : gArr 1 = some (1, 8) := by decide +kernel
theorem N_1 : gLen 1 = some 8 := by decide +kernel
theorem A_4 : gArr 4 = some (1, 48) := by decide +kernel
theorem N_4 : gLen 4 = some 48 := by decide +kernel
theorem A_6 : gArr 6 = some (1, 48) := by decide +kernel
theorem N_6 : gLen 6 = some 48 := by decide +kernel
theorem A_8 : gArr 8 = some (1, 48) := by decide +kernel
theorem N_8 : gLen 8 = some 48 := by decide +kernel
theorem A_11 : gArr 11 = some (1, 48) := by decide +kernel
theorem N_11 : gLen 11 = some 48 := by decide +kernel
theorem A_13 : gArr 13 = some (1, 48) := by decide +kernel
theorem N_13 : gLen 13 = some 48 := by decide +kernel
theorem A_15 : gArr 15 = some (1, 48) := by decide +kernel
theorem N_15 : gLen 15 = some 48 := by decide +kernel
theorem A_18 : gArr 18 = some (1, 48) := by decide +kernel
theorem N_18 : gLen 18 = some 48 := by decide +kernel
theorem A_20 : gArr 20 = some (1, 48) := by decide +kernel
theorem N_20 : gLen 20 = some 48 := by decide +kernel
theorem A_22 : gArr 22 = some (1, 48) := by decide +kernel
theorem N_22 : gLen 22 = some 48 := by decide +kernel
theorem A_24 : gArr 24 = some (1, 8) := by decide +kernel
theorem N_24 : gLen 24 = some 8 := by decide +kernel
theorem A_25 : gArr 25 = some (1, 8) := by decide +kernel
theorem N_25 : gLen 25 = some 8 := by decide +kernel
theorem A_27 : gArr 27 = some (2, 160) := by decide +kernel
theorem N_27 : gLen 27 = some 160 := by decide +kernel
theorem A_28 : gArr 28 = some (2, 160) := by decide +kernel
theorem N_28 : gLen 28 = some 160 := by decide +kernel
theorem A_29 : gArr 29 = some (2, 160) := by decide +kernel
theorem N_29 : gLen 29 = some 160 := by decide +kernel
theorem A_30 : gArr 30 = some (2, 160) := by decide +kernel
theorem N_30 : gLen 30 = some 160 := by decide +kernel
theorem A_31 : gArr 31 = some (2, 160) := by decide +kernel
theorem N_31 : gLen 31 = some 160 := by decide +kernel
theorem A_32 : gArr 32 = some (2, 160) := by decide +kernel
theorem N_32 : gLen 32 = some 160 := by decide +kernel
theorem A_33 : gArr 33 = some (2, 160) := by decide +kernel
theorem N_33 : gLen 33 = some 160 := by decide +kernel
theorem A_34 : gArr 34 = some (2, 160) := by decide +kernel
theorem N_34 : gLen 34 = some 160 := by decide +kernel
theorem A_36 : gArr 36 = some (1, 160) := by decide +kernel
theorem N_36 : gLen 36 = some 160 := by decide +kernel
theorem A_38 : gArr 38 = some (1, 8) := by decide +kernel
theorem N_38 : gLen 38 = some 8 := by decide +kernel
theorem A_39 : gArr 39 = some (1, 256) := by decide +kernel
theorem N_39 : gLen 39 = some 256 := by decide +kernel
theorem A_41 : gArr 41 = some (1, 256) := by decide +kernel
theorem N_41 : gLen 41 = some 256 := by decide +kernel
theorem A_42 : gArr 42 = some (1, 256) := by decide +kernel
theorem N_42 : gLen 42 = some 256 := by decide +kernel
theorem A_44 : gArr 44 = some (1, 20) := by decide +kernel
theorem N_44 : gLen 44 = some 20 := by decide +kernel
theorem A_46 : gArr 46 = some (1, 8) := by decide +kernel
theorem N_46 : gLen 46 = some 8 := by decide +kernel
theorem A_47 : gArr 47 = some (1, 8) := by decide +kernel
theorem N_47 : gLen 47 = some 8 := by decide +kernel
theorem A_48 : gArr 48 = some (1, 8) := by decide +kernel
theorem N_48 : gLen 48 = some 8 := by decide +kernel
theorem A_49 : gArr 49 = some (1, 8) := by decide +kernel
theorem N_49 : gLen 49 = some 8 := by decide +kernel
theorem A_50 : gArr 50 = some (1, 8) := by decide +kernel
theorem N_50 : gLen 50 = some 8 := by decide +kernel
theorem A_51 : gArr 51 = some (1, 8) := by decide +kernel
theorem N_51 : gLen 51 = some 8 := by decide +kernel
theorem A_52 : gArr 52 = some (1, 8) := by decide +kernel
theorem N_52 : gLen 52 = some 8 := by decide +kernel
theorem A_53 : gArr 53 = some (1, 8) := by decide +kernel
theorem N_53 : gLen 53 = some 8 := by decide +kernel
theorem A_54 : gArr 54 = some (1, 8) := by decide +kernel
theorem N_54 : gLen 54 = some 8 := by decide +kernel
theorem A_55 : gArr 55 = some (1, 4) := by decide +kernel
theorem N_55 : gLen 55 = some 4 := by decide +kernel
theorem A_56 : gArr 56 = some (1, 4) := by decide +kernel
theorem N_56 : gLen 56 = some 4 := by decide +kernel
theorem A_57 : gArr 57 = some (1, 4) := by decide +kernel
theorem N_57 : gLen 57 = some 4 := by decide +kernel
theorem A_58 : gArr 58 = some (1, 8) := by decide +kernel
theorem N_58 : gLen 58 = some 8 := by decide +kernel
theorem A_59 : gArr 59 = some (1, 8) := by decide +kernel
theorem N_59 : gLen 59 = some 8 := by decide +kernel
theorem A_60 : gArr 60 = some (1, 8) := by decide +kernel
theorem N_60 : gLen 60 = some 8 := by decide +kernel
theorem A_61 : gArr 61 = some (1, 8) := by decide +kernel
theorem N_61 : gLen 61 = some 8 := by decide +kernel
theorem A_62 : gArr 62 = some (2, 1280) := by decide +kernel
theorem N_62 : gLen 62 = some 1280 := by decide +kernel
theorem A_63 : gArr 63 = some (2, 160) := by decide +kernel
theorem N_63 : gLen 63 = some 160 := by decide +kernel
theorem A_64 : gArr 64 = some (1, 37) := by decide +kernel
theorem N_64 : gLen 64 = some 37 := by decide +kernel
theorem A_65 : gArr 65 = some (1, 4) := by decide +kernel
theorem N_65 : gLen 65 = some 4 := by decide +kernel
theorem A_66 : gArr 66 = some (1, 90) := by decide +kernel
theorem N_66 : gLen 66 = some 90 := by decide +kernel
theorem A_67 : gArr 67 = some (1, 90) := by decide +kernel
theorem N_67 : gLen 67 = some 90 := by decide +kernel
theorem A_68 : gArr 68 = some (1, 90) := by decide +kernel
theorem N_68 : gLen 68 = some 90 := by decide +kernel
theorem A_69 : gArr 69 = some (1, 256) := by decide +kernel
theorem N_69 : gLen 69 = some 256 := by decide +kernel
theorem A_70 : gArr 70 = some (1, 8) := by decide +kernel
theorem N_70 : gLen 70 = some 8 := by decide +kernel
theorem A_71 : gArr 71 = some (1, 9) := by decide +kernel
theorem N_71 : gLen 71 = some 9 := by decide +kernel
theorem A_72 : gArr 72 = some (1, 9) := by decide +kernel
theorem N_72 : gLen 72 = some 9 := by decide +kernel
theorem A_73 : gArr 73 = some (1, 1024) := by decide +kernel
theorem N_73 : gLen 73 = some 1024 := by decide +kernel
theorem A_74 : gArr 74 = some (1, 4) := by decide +kernel
theorem N_74 : gLen 74 = some 4 := by decide +kernel
theorem A_75 : gArr 75 = some (1, 8) := by decide +kernel
theorem N_75 : gLen 75 = some 8 := by decide +kernel
theorem A_76 : gArr 76 = some (1, 8) := by decide +kernel
theorem N_76 : gLen 76 = some 8 := by decide +kernel
theorem A_77 : gArr 77 = some (1, 20) := by decide +kernel
theorem N_77 : gLen 77 = some 20 := by decide +kernel
theorem A_100 : gArr 100 = some (4, 7) := by decide +kernel
theorem N_100 : gLen 100 = some 7 := by decide +kernel
theorem A_101 : gArr 101 = some (4, 21) := by decide +kernel
theorem N_101 : gLen 101 = some 21 := by decide +kernel
theorem A_102 : gArr 102 = some (4, 8) := by decide +kernel
theorem N_102 : gLen 102 = some 8 := by decide +kernel
theorem R_0 {st : List Value} : cRc 43 0 st = (catS st ≤ 8) := by
  have h1 : gRcv 43 = some 0 := by decide +kernel
  unfold cRc
  rw [h1]
  simp
theorem R_1 {st : List Value} : cRc 35 1 st = (catS st ≤ 8) := by
  have h1 : gRcv 35 = some 1 := by decide +kernel
  unfold cRc
  rw [h1]
  simp
theorem R_2 {st : List Value} : cRc 37 2 st = (catS st ≤ 8) := by
  have h1 : gRcv 37 = some 2 := by decide +kernel
  unfold cRc
  rw [h1]
  simp
theorem R_3 {st : List Value} : cRc 40 3 st = (catS st ≤ 8) := by
  have h1 : gRcv 40 = some 3 := by decide +kernel
  unfold cRc
  rw [h1]
  simp
theorem R_4 {st : List Value} : cRc 23 4 st = (catS st ≤ 8) := by
  have h1 : gRcv 23 = some 4 := by decide +kernel
  unfold cRc
  rw [h1]
  simp
theorem R_7 {st : List Value} : cRc 0 7 st = (catS st ≤ 8) := by
  have h1 : gRcv 0 = some 7 := by decide +kernel
  unfold cRc
  rw [h1]
  simp
theorem R_8 {st : List Value} : cRc 45 8 st = (catS st ≤ 8) := by
  have h1 : gRcv 45 = some 8 := by decide +kernel
  unfold cRc
  rw [h1]
  simp
theorem vl_rcv {p : Nat} (h : isVal p) {st : List Value} : cRc p 6 st = (catS st ≤ 8) := by
  have h1 : gRcv p = some 6 := by rcases h with rfl | rfl | rfl <;> decide +kernel
  unfold cRc
  rw [h1]
  simp
theorem vt1 {b : Nat} (h : isVal b) : isTab (b + 1) := by rcases h with rfl | rfl | rfl <;> simp [isTab]
theorem vt3 {b : Nat} (h : isVal b) : isTab (b + 3) := by rcases h with rfl | rfl | rfl <;> simp [isTab]
theorem vt5 {b : Nat} (h : isVal b) : isTab (b + 5) := by rcases h with rfl | rfl | rfl <;> simp [isTab]
theorem iv2 : isVal 2 := by simp [isVal]
theorem iv9 : isVal 9 := by simp [isVal]
theorem iv16 : isVal 16 := by simp [isVal]
theorem it3 : isTab 3 := by simp [isTab]
theorem it5 : isTab 5 := by simp [isTab]
theorem it7 : isTab 7 := by simp [isTab]
theorem it10 : isTab 10 := by simp [isTab]
theorem it12 : isTab 12 := by simp [isTab]
theorem it14 : isTab 14 := by simp [isTab]
theorem it17 : isTab 17 := by simp [isTab]
theorem it19 : isTab 19 := by simp [isTab]
theorem it21 : isTab 21 := by simp [isTab]
theorem n160 : Int32.ofNat 160 = 160 := rfl
theorem n256 : Int32.ofNat 256 = 256 := rfl
theorem n8 : Int32.ofNat 8 = 8 := rfl
theorem n21 : Int32.ofNat 21 = 21 := rfl
theorem n7 : Int32.ofNat 7 = 7 := rfl
theorem n20 : Int32.ofNat 20 = 20 := rfl
