/-! ===== all cells made (segments printed by wip/whole, contracts own work) ===== -/
theorem c_140_0 : pg_cd 140 0 = (5, 1, 0, 0, 0) := by decide +kernel
theorem c_140_1 : pg_cd 140 1 = (61, 0, 3, 0, 0) := by decide +kernel
theorem c_140_4 : pg_cd 140 4 = (5, 1, 0, 0, 0) := by decide +kernel
theorem c_140_5 : pg_cd 140 5 = (60, 8, 9, 18, 0) := by decide +kernel
theorem c_140_8 : pg_cd 140 8 = (33, 1, 0, 0, 0) := by decide +kernel
theorem c_140_9 : pg_cd 140 9 = (80, 86, 11, 0, 0) := by decide +kernel
theorem c_140_12 : pg_cd 140 12 = (49, 11, 12, 0, 0) := by decide +kernel
theorem c_140_15 : pg_cd 140 15 = (5, 1, 0, 0, 0) := by decide +kernel
theorem c_140_16 : pg_cd 140 16 = (60, 8, 9, 18, 0) := by decide +kernel
theorem c_140_19 : pg_cd 140 19 = (33, 1, 0, 0, 0) := by decide +kernel
theorem c_140_20 : pg_cd 140 20 = (80, 86, 11, 0, 0) := by decide +kernel
theorem c_140_23 : pg_cd 140 23 = (49, 11, 16, 1, 0) := by decide +kernel
theorem c_140_26 : pg_cd 140 26 = (5, 1, 0, 0, 0) := by decide +kernel
theorem c_140_27 : pg_cd 140 27 = (60, 8, 9, 18, 0) := by decide +kernel
theorem c_140_30 : pg_cd 140 30 = (33, 1, 0, 0, 0) := by decide +kernel
theorem c_140_31 : pg_cd 140 31 = (80, 86, 11, 0, 0) := by decide +kernel
theorem c_140_34 : pg_cd 140 34 = (49, 11, 19, 2, 0) := by decide +kernel
theorem c_140_37 : pg_cd 140 37 = (5, 1, 0, 0, 0) := by decide +kernel
theorem c_140_38 : pg_cd 140 38 = (60, 9, 22, 10, 0) := by decide +kernel
theorem c_140_41 : pg_cd 140 41 = (33, 1, 0, 0, 0) := by decide +kernel
theorem c_140_42 : pg_cd 140 42 = (80, 107, 24, 0, 0) := by decide +kernel
theorem c_140_45 : pg_cd 140 45 = (49, 11, 25, 3, 0) := by decide +kernel
theorem c_140_48 : pg_cd 140 48 = (5, 1, 0, 0, 0) := by decide +kernel
theorem c_140_49 : pg_cd 140 49 = (5, 1, 0, 0, 0) := by decide +kernel
theorem c_140_50 : pg_cd 140 50 = (45, 11, 25, 3, 0) := by decide +kernel
theorem c_140_53 : pg_cd 140 53 = (45, 9, 29, 0, 0) := by decide +kernel
theorem c_140_56 : pg_cd 140 56 = (49, 11, 33, 4, 0) := by decide +kernel
theorem c_140_59 : pg_cd 140 59 = (5, 1, 0, 0, 0) := by decide +kernel
theorem c_140_60 : pg_cd 140 60 = (5, 1, 0, 0, 0) := by decide +kernel
theorem c_140_61 : pg_cd 140 61 = (45, 11, 25, 3, 0) := by decide +kernel
theorem c_140_64 : pg_cd 140 64 = (45, 9, 34, 1, 0) := by decide +kernel
theorem c_140_67 : pg_cd 140 67 = (49, 11, 38, 5, 0) := by decide +kernel
theorem c_140_70 : pg_cd 140 70 = (5, 1, 0, 0, 0) := by decide +kernel
theorem c_140_71 : pg_cd 140 71 = (60, 3, 39, 7, 0) := by decide +kernel
theorem c_140_74 : pg_cd 140 74 = (33, 1, 0, 0, 0) := by decide +kernel
theorem c_140_75 : pg_cd 140 75 = (80, 32, 41, 0, 0) := by decide +kernel
theorem c_140_78 : pg_cd 140 78 = (49, 11, 42, 6, 0) := by decide +kernel
theorem c_140_81 : pg_cd 140 81 = (5, 1, 0, 0, 0) := by decide +kernel
theorem c_140_82 : pg_cd 140 82 = (60, 5, 46, 12, 0) := by decide +kernel
theorem c_140_85 : pg_cd 140 85 = (33, 1, 0, 0, 0) := by decide +kernel
theorem c_140_86 : pg_cd 140 86 = (80, 61, 48, 0, 0) := by decide +kernel
theorem c_140_89 : pg_cd 140 89 = (49, 11, 49, 7, 0) := by decide +kernel
theorem c_140_92 : pg_cd 140 92 = (5, 1, 0, 0, 0) := by decide +kernel
theorem c_140_93 : pg_cd 140 93 = (60, 2, 53, 2, 0) := by decide +kernel
theorem c_140_96 : pg_cd 140 96 = (33, 1, 0, 0, 0) := by decide +kernel
theorem c_140_97 : pg_cd 140 97 = (80, 25, 55, 0, 0) := by decide +kernel
theorem c_140_100 : pg_cd 140 100 = (49, 11, 56, 8, 0) := by decide +kernel
theorem c_140_103 : pg_cd 140 103 = (5, 1, 0, 0, 0) := by decide +kernel
theorem c_140_104 : pg_cd 140 104 = (60, 6, 60, 3, 0) := by decide +kernel
theorem c_140_107 : pg_cd 140 107 = (33, 1, 0, 0, 0) := by decide +kernel
theorem c_140_108 : pg_cd 140 108 = (80, 73, 62, 0, 0) := by decide +kernel
theorem c_140_111 : pg_cd 140 111 = (49, 11, 63, 9, 0) := by decide +kernel
theorem c_140_114 : pg_cd 140 114 = (5, 1, 0, 0, 0) := by decide +kernel
theorem c_140_115 : pg_cd 140 115 = (1, 3, 0, 0, 300) := by decide +kernel
theorem c_140_118 : pg_cd 140 118 = (59, 2, 0, 0, 0) := by decide +kernel
theorem c_140_120 : pg_cd 140 120 = (49, 11, 67, 10, 0) := by decide +kernel
theorem c_140_123 : pg_cd 140 123 = (94, 0, 0, 0, 0) := by decide +kernel
theorem mi_140 : pg_mc 140 = 11 ∧ pg_na 140 = 0 ∧ pg_mx 140 = 1 := by decide +kernel
theorem c_107_0 : pg_cd 107 0 = (5, 1, 0, 0, 0) := by decide +kernel
theorem c_107_1 : pg_cd 107 1 = (61, 0, 3, 0, 0) := by decide +kernel
theorem c_107_4 : pg_cd 107 4 = (5, 1, 0, 0, 0) := by decide +kernel
theorem c_107_5 : pg_cd 107 5 = (60, 1, 9, 5, 0) := by decide +kernel
theorem c_107_8 : pg_cd 107 8 = (33, 1, 0, 0, 0) := by decide +kernel
theorem c_107_9 : pg_cd 107 9 = (80, 8, 11, 0, 0) := by decide +kernel
theorem c_107_12 : pg_cd 107 12 = (49, 9, 12, 0, 0) := by decide +kernel
theorem c_107_15 : pg_cd 107 15 = (5, 1, 0, 0, 0) := by decide +kernel
theorem c_107_16 : pg_cd 107 16 = (60, 0, 18, 1, 0) := by decide +kernel
theorem c_107_19 : pg_cd 107 19 = (33, 1, 0, 0, 0) := by decide +kernel
theorem c_107_20 : pg_cd 107 20 = (80, 0, 20, 0, 0) := by decide +kernel
theorem c_107_23 : pg_cd 107 23 = (49, 9, 21, 1, 0) := by decide +kernel
theorem c_107_26 : pg_cd 107 26 = (5, 1, 0, 0, 0) := by decide +kernel
theorem c_107_27 : pg_cd 107 27 = (1, 2, 0, 0, 60) := by decide +kernel
theorem c_107_29 : pg_cd 107 29 = (59, 2, 0, 0, 0) := by decide +kernel
theorem c_107_31 : pg_cd 107 31 = (49, 9, 25, 2, 0) := by decide +kernel
theorem c_107_34 : pg_cd 107 34 = (5, 1, 0, 0, 0) := by decide +kernel
theorem c_107_35 : pg_cd 107 35 = (1, 2, 0, 0, 60) := by decide +kernel
theorem c_107_37 : pg_cd 107 37 = (59, 2, 0, 0, 0) := by decide +kernel
theorem c_107_39 : pg_cd 107 39 = (49, 9, 29, 3, 0) := by decide +kernel
theorem c_107_42 : pg_cd 107 42 = (5, 1, 0, 0, 0) := by decide +kernel
theorem c_107_43 : pg_cd 107 43 = (1, 2, 0, 0, 48) := by decide +kernel
theorem c_107_45 : pg_cd 107 45 = (59, 2, 0, 0, 0) := by decide +kernel
theorem c_107_47 : pg_cd 107 47 = (49, 9, 32, 4, 0) := by decide +kernel
theorem c_107_50 : pg_cd 107 50 = (94, 0, 0, 0, 0) := by decide +kernel
theorem mi_107 : pg_mc 107 = 9 ∧ pg_na 107 = 0 ∧ pg_mx 107 = 1 := by decide +kernel
theorem c_8_0 : pg_cd 8 0 = (5, 1, 0, 0, 0) := by decide +kernel
theorem c_8_1 : pg_cd 8 1 = (61, 0, 3, 0, 0) := by decide +kernel
theorem c_8_4 : pg_cd 8 4 = (5, 1, 0, 0, 0) := by decide +kernel
theorem c_8_5 : pg_cd 8 5 = (1, 2, 0, 0, 20) := by decide +kernel
theorem c_8_7 : pg_cd 8 7 = (59, 3, 9, 10, 0) := by decide +kernel
theorem c_8_10 : pg_cd 8 10 = (49, 1, 11, 0, 0) := by decide +kernel
theorem c_8_13 : pg_cd 8 13 = (5, 1, 0, 0, 0) := by decide +kernel
theorem c_8_14 : pg_cd 8 14 = (1, 2, 0, 0, 64) := by decide +kernel
theorem c_8_16 : pg_cd 8 16 = (59, 2, 0, 1, 0) := by decide +kernel
theorem c_8_18 : pg_cd 8 18 = (49, 1, 17, 1, 0) := by decide +kernel
theorem c_8_21 : pg_cd 8 21 = (5, 1, 0, 0, 0) := by decide +kernel
theorem c_8_22 : pg_cd 8 22 = (1, 2, 0, 0, 64) := by decide +kernel
theorem c_8_24 : pg_cd 8 24 = (59, 2, 0, 1, 0) := by decide +kernel
theorem c_8_26 : pg_cd 8 26 = (49, 1, 21, 2, 0) := by decide +kernel
theorem c_8_29 : pg_cd 8 29 = (5, 1, 0, 0, 0) := by decide +kernel
theorem c_8_30 : pg_cd 8 30 = (1, 1, 0, 0, (-1)) := by decide +kernel
theorem c_8_31 : pg_cd 8 31 = (46, 1, 24, 4, 0) := by decide +kernel
theorem c_8_34 : pg_cd 8 34 = (94, 0, 0, 0, 0) := by decide +kernel
theorem mi_8 : pg_mc 8 = 1 ∧ pg_na 8 = 0 ∧ pg_mx 8 = 1 := by decide +kernel
theorem c_0_0 : pg_cd 0 0 = (5, 1, 0, 0, 0) := by decide +kernel
theorem c_0_1 : pg_cd 0 1 = (61, 0, 3, 0, 0) := by decide +kernel
theorem c_0_4 : pg_cd 0 4 = (5, 1, 0, 0, 0) := by decide +kernel
theorem c_0_5 : pg_cd 0 5 = (1, 3, 0, 0, 400) := by decide +kernel
theorem c_0_8 : pg_cd 0 8 = (59, 3, 9, 13, 0) := by decide +kernel
theorem c_0_11 : pg_cd 0 11 = (49, 0, 11, 0, 0) := by decide +kernel
theorem c_0_14 : pg_cd 0 14 = (94, 0, 0, 0, 0) := by decide +kernel
theorem mi_0 : pg_mc 0 = 0 ∧ pg_na 0 = 0 ∧ pg_mx 0 = 1 := by decide +kernel
theorem c_32_0 : pg_cd 32 0 = (5, 1, 0, 0, 0) := by decide +kernel
theorem c_32_1 : pg_cd 32 1 = (61, 0, 3, 0, 0) := by decide +kernel
theorem c_32_4 : pg_cd 32 4 = (5, 1, 0, 0, 0) := by decide +kernel
theorem c_32_5 : pg_cd 32 5 = (1, 3, 0, 0, 301) := by decide +kernel
theorem c_32_8 : pg_cd 32 8 = (59, 2, 0, 0, 0) := by decide +kernel
theorem c_32_10 : pg_cd 32 10 = (49, 3, 9, 0, 0) := by decide +kernel
theorem c_32_13 : pg_cd 32 13 = (5, 1, 0, 0, 0) := by decide +kernel
theorem c_32_14 : pg_cd 32 14 = (1, 3, 0, 0, 301) := by decide +kernel
theorem c_32_17 : pg_cd 32 17 = (59, 2, 0, 0, 0) := by decide +kernel
theorem c_32_19 : pg_cd 32 19 = (49, 3, 15, 1, 0) := by decide +kernel
theorem c_32_22 : pg_cd 32 22 = (5, 1, 0, 0, 0) := by decide +kernel
theorem c_32_23 : pg_cd 32 23 = (1, 3, 0, 0, 301) := by decide +kernel
theorem c_32_26 : pg_cd 32 26 = (59, 2, 0, 0, 0) := by decide +kernel
theorem c_32_28 : pg_cd 32 28 = (49, 3, 18, 2, 0) := by decide +kernel
theorem c_32_31 : pg_cd 32 31 = (5, 1, 0, 0, 0) := by decide +kernel
theorem c_32_32 : pg_cd 32 32 = (1, 1, 0, 0, (-1)) := by decide +kernel
theorem c_32_33 : pg_cd 32 33 = (46, 3, 21, 5, 0) := by decide +kernel
theorem c_32_36 : pg_cd 32 36 = (5, 1, 0, 0, 0) := by decide +kernel
theorem c_32_37 : pg_cd 32 37 = (1, 1, 0, 0, (-1)) := by decide +kernel
theorem c_32_38 : pg_cd 32 38 = (46, 3, 25, 6, 0) := by decide +kernel
theorem c_32_41 : pg_cd 32 41 = (94, 0, 0, 0, 0) := by decide +kernel
theorem mi_32 : pg_mc 32 = 3 ∧ pg_na 32 = 0 ∧ pg_mx 32 = 1 := by decide +kernel
theorem c_61_0 : pg_cd 61 0 = (5, 1, 0, 0, 0) := by decide +kernel
theorem c_61_1 : pg_cd 61 1 = (61, 0, 3, 0, 0) := by decide +kernel
theorem c_61_4 : pg_cd 61 4 = (5, 1, 0, 0, 0) := by decide +kernel
theorem c_61_5 : pg_cd 61 5 = (1, 3, 0, 0, 576) := by decide +kernel
theorem c_61_8 : pg_cd 61 8 = (59, 2, 0, 1, 0) := by decide +kernel
theorem c_61_10 : pg_cd 61 10 = (49, 5, 11, 0, 0) := by decide +kernel
theorem c_61_13 : pg_cd 61 13 = (5, 1, 0, 0, 0) := by decide +kernel
theorem c_61_14 : pg_cd 61 14 = (1, 2, 0, 0, 24) := by decide +kernel
theorem c_61_16 : pg_cd 61 16 = (59, 2, 0, 0, 0) := by decide +kernel
theorem c_61_18 : pg_cd 61 18 = (49, 5, 15, 1, 0) := by decide +kernel
theorem c_61_21 : pg_cd 61 21 = (5, 1, 0, 0, 0) := by decide +kernel
theorem c_61_22 : pg_cd 61 22 = (1, 3, 0, 0, 216) := by decide +kernel
theorem c_61_25 : pg_cd 61 25 = (59, 2, 0, 1, 0) := by decide +kernel
theorem c_61_27 : pg_cd 61 27 = (49, 5, 19, 2, 0) := by decide +kernel
theorem c_61_30 : pg_cd 61 30 = (5, 1, 0, 0, 0) := by decide +kernel
theorem c_61_31 : pg_cd 61 31 = (1, 3, 0, 0, 216) := by decide +kernel
theorem c_61_34 : pg_cd 61 34 = (59, 2, 0, 1, 0) := by decide +kernel
theorem c_61_36 : pg_cd 61 36 = (49, 5, 22, 3, 0) := by decide +kernel
theorem c_61_39 : pg_cd 61 39 = (5, 1, 0, 0, 0) := by decide +kernel
theorem c_61_40 : pg_cd 61 40 = (1, 2, 0, 0, 9) := by decide +kernel
theorem c_61_42 : pg_cd 61 42 = (59, 2, 0, 0, 0) := by decide +kernel
theorem c_61_44 : pg_cd 61 44 = (49, 5, 25, 4, 0) := by decide +kernel
theorem c_61_47 : pg_cd 61 47 = (5, 1, 0, 0, 0) := by decide +kernel
theorem c_61_48 : pg_cd 61 48 = (1, 2, 0, 0, 8) := by decide +kernel
theorem c_61_50 : pg_cd 61 50 = (59, 2, 0, 0, 0) := by decide +kernel
theorem c_61_52 : pg_cd 61 52 = (49, 5, 28, 5, 0) := by decide +kernel
theorem c_61_55 : pg_cd 61 55 = (5, 1, 0, 0, 0) := by decide +kernel
theorem c_61_56 : pg_cd 61 56 = (1, 2, 0, 0, 8) := by decide +kernel
theorem c_61_58 : pg_cd 61 58 = (59, 2, 0, 0, 0) := by decide +kernel
theorem c_61_60 : pg_cd 61 60 = (49, 5, 31, 6, 0) := by decide +kernel
theorem c_61_63 : pg_cd 61 63 = (5, 1, 0, 0, 0) := by decide +kernel
theorem c_61_64 : pg_cd 61 64 = (1, 2, 0, 0, 8) := by decide +kernel
theorem c_61_66 : pg_cd 61 66 = (59, 2, 0, 0, 0) := by decide +kernel
theorem c_61_68 : pg_cd 61 68 = (49, 5, 34, 7, 0) := by decide +kernel
theorem c_61_71 : pg_cd 61 71 = (5, 1, 0, 0, 0) := by decide +kernel
theorem c_61_72 : pg_cd 61 72 = (1, 2, 0, 0, 24) := by decide +kernel
theorem c_61_74 : pg_cd 61 74 = (59, 2, 0, 1, 0) := by decide +kernel
theorem c_61_76 : pg_cd 61 76 = (49, 5, 37, 8, 0) := by decide +kernel
theorem c_61_79 : pg_cd 61 79 = (94, 0, 0, 0, 0) := by decide +kernel
theorem mi_61 : pg_mc 61 = 5 ∧ pg_na 61 = 0 ∧ pg_mx 61 = 1 := by decide +kernel
theorem c_25_0 : pg_cd 25 0 = (5, 1, 0, 0, 0) := by decide +kernel
theorem c_25_1 : pg_cd 25 1 = (61, 0, 3, 0, 0) := by decide +kernel
theorem c_25_4 : pg_cd 25 4 = (5, 1, 0, 0, 0) := by decide +kernel
theorem c_25_5 : pg_cd 25 5 = (1, 1, 0, 0, 4) := by decide +kernel
theorem c_25_6 : pg_cd 25 6 = (59, 2, 0, 0, 0) := by decide +kernel
theorem c_25_8 : pg_cd 25 8 = (49, 2, 9, 0, 0) := by decide +kernel
theorem c_25_11 : pg_cd 25 11 = (94, 0, 0, 0, 0) := by decide +kernel
theorem mi_25 : pg_mc 25 = 2 ∧ pg_na 25 = 0 ∧ pg_mx 25 = 1 := by decide +kernel
theorem c_73_0 : pg_cd 73 0 = (5, 1, 0, 0, 0) := by decide +kernel
theorem c_73_1 : pg_cd 73 1 = (61, 0, 3, 0, 0) := by decide +kernel
theorem c_73_4 : pg_cd 73 4 = (5, 1, 0, 0, 0) := by decide +kernel
theorem c_73_5 : pg_cd 73 5 = (1, 3, 0, 0, 192) := by decide +kernel
theorem c_73_8 : pg_cd 73 8 = (59, 2, 0, 0, 0) := by decide +kernel
theorem c_73_10 : pg_cd 73 10 = (49, 6, 9, 0, 0) := by decide +kernel
theorem c_73_13 : pg_cd 73 13 = (5, 1, 0, 0, 0) := by decide +kernel
theorem c_73_14 : pg_cd 73 14 = (1, 3, 0, 0, 192) := by decide +kernel
theorem c_73_17 : pg_cd 73 17 = (59, 2, 0, 0, 0) := by decide +kernel
theorem c_73_19 : pg_cd 73 19 = (49, 6, 15, 1, 0) := by decide +kernel
theorem c_73_22 : pg_cd 73 22 = (5, 1, 0, 0, 0) := by decide +kernel
theorem c_73_23 : pg_cd 73 23 = (1, 1, 0, 0, (-1)) := by decide +kernel
theorem c_73_24 : pg_cd 73 24 = (46, 6, 18, 2, 0) := by decide +kernel
theorem c_73_27 : pg_cd 73 27 = (94, 0, 0, 0, 0) := by decide +kernel
theorem mi_73 : pg_mc 73 = 6 ∧ pg_na 73 = 0 ∧ pg_mx 73 = 1 := by decide +kernel
theorem c_194_0 : pg_cd 194 0 = (5, 1, 0, 0, 0) := by decide +kernel
theorem c_194_1 : pg_cd 194 1 = (61, 0, 1, 0, 0) := by decide +kernel
theorem c_194_4 : pg_cd 194 4 = (5, 1, 0, 0, 0) := by decide +kernel
theorem c_194_5 : pg_cd 194 5 = (1, 2, 7, 0, 112300) := by decide +kernel
theorem c_194_7 : pg_cd 194 7 = (59, 2, 0, 0, 0) := by decide +kernel
theorem c_194_9 : pg_cd 194 9 = (49, 12, 8, 0, 0) := by decide +kernel
theorem c_194_12 : pg_cd 194 12 = (5, 1, 0, 0, 0) := by decide +kernel
theorem c_194_13 : pg_cd 194 13 = (1, 2, 7, 0, 112300) := by decide +kernel
theorem c_194_15 : pg_cd 194 15 = (59, 2, 0, 0, 0) := by decide +kernel
theorem c_194_17 : pg_cd 194 17 = (49, 12, 14, 1, 0) := by decide +kernel
theorem c_194_20 : pg_cd 194 20 = (5, 1, 0, 0, 0) := by decide +kernel
theorem c_194_21 : pg_cd 194 21 = (1, 2, 7, 0, 112300) := by decide +kernel
theorem c_194_23 : pg_cd 194 23 = (59, 2, 0, 0, 0) := by decide +kernel
theorem c_194_25 : pg_cd 194 25 = (49, 12, 17, 2, 0) := by decide +kernel
theorem c_194_28 : pg_cd 194 28 = (5, 1, 0, 0, 0) := by decide +kernel
theorem c_194_29 : pg_cd 194 29 = (1, 3, 0, 0, 300) := by decide +kernel
theorem c_194_32 : pg_cd 194 32 = (59, 2, 0, 0, 0) := by decide +kernel
theorem c_194_34 : pg_cd 194 34 = (49, 12, 20, 3, 0) := by decide +kernel
theorem c_194_37 : pg_cd 194 37 = (5, 1, 0, 0, 0) := by decide +kernel
theorem c_194_38 : pg_cd 194 38 = (1, 1, 0, 0, (-1)) := by decide +kernel
theorem c_194_39 : pg_cd 194 39 = (46, 12, 23, 5, 0) := by decide +kernel
theorem c_194_42 : pg_cd 194 42 = (5, 1, 0, 0, 0) := by decide +kernel
theorem c_194_43 : pg_cd 194 43 = (1, 1, 0, 0, (-1)) := by decide +kernel
theorem c_194_44 : pg_cd 194 44 = (46, 12, 27, 6, 0) := by decide +kernel
theorem c_194_47 : pg_cd 194 47 = (5, 1, 0, 0, 0) := by decide +kernel
theorem c_194_48 : pg_cd 194 48 = (1, 3, 0, 0, 160) := by decide +kernel
theorem c_194_51 : pg_cd 194 51 = (59, 2, 0, 0, 0) := by decide +kernel
theorem c_194_53 : pg_cd 194 53 = (49, 12, 30, 15, 0) := by decide +kernel
theorem c_194_56 : pg_cd 194 56 = (5, 1, 0, 0, 0) := by decide +kernel
theorem c_194_57 : pg_cd 194 57 = (1, 3, 0, 0, 320) := by decide +kernel
theorem c_194_60 : pg_cd 194 60 = (59, 2, 0, 1, 0) := by decide +kernel
theorem c_194_62 : pg_cd 194 62 = (49, 12, 33, 19, 0) := by decide +kernel
theorem c_194_65 : pg_cd 194 65 = (5, 1, 0, 0, 0) := by decide +kernel
theorem c_194_66 : pg_cd 194 66 = (1, 3, 0, 0, 320) := by decide +kernel
theorem c_194_69 : pg_cd 194 69 = (59, 2, 0, 1, 0) := by decide +kernel
theorem c_194_71 : pg_cd 194 71 = (49, 12, 37, 20, 0) := by decide +kernel
theorem c_194_74 : pg_cd 194 74 = (5, 1, 0, 0, 0) := by decide +kernel
theorem c_194_75 : pg_cd 194 75 = (1, 3, 0, 0, 320) := by decide +kernel
theorem c_194_78 : pg_cd 194 78 = (59, 2, 0, 2, 0) := by decide +kernel
theorem c_194_80 : pg_cd 194 80 = (49, 12, 40, 21, 0) := by decide +kernel
theorem c_194_83 : pg_cd 194 83 = (5, 1, 0, 0, 0) := by decide +kernel
theorem c_194_84 : pg_cd 194 84 = (1, 2, 0, 0, 24) := by decide +kernel
theorem c_194_86 : pg_cd 194 86 = (59, 2, 0, 0, 0) := by decide +kernel
theorem c_194_88 : pg_cd 194 88 = (49, 12, 44, 26, 0) := by decide +kernel
theorem c_194_91 : pg_cd 194 91 = (5, 1, 0, 0, 0) := by decide +kernel
theorem c_194_92 : pg_cd 194 92 = (1, 2, 0, 0, 60) := by decide +kernel
theorem c_194_94 : pg_cd 194 94 = (59, 2, 0, 0, 0) := by decide +kernel
theorem c_194_96 : pg_cd 194 96 = (49, 12, 47, 32, 0) := by decide +kernel
theorem c_194_99 : pg_cd 194 99 = (5, 1, 0, 0, 0) := by decide +kernel
theorem c_194_100 : pg_cd 194 100 = (1, 2, 0, 0, 60) := by decide +kernel
theorem c_194_102 : pg_cd 194 102 = (59, 2, 0, 0, 0) := by decide +kernel
theorem c_194_104 : pg_cd 194 104 = (49, 12, 50, 33, 0) := by decide +kernel
theorem c_194_107 : pg_cd 194 107 = (5, 1, 0, 0, 0) := by decide +kernel
theorem c_194_108 : pg_cd 194 108 = (1, 2, 0, 0, 24) := by decide +kernel
theorem c_194_110 : pg_cd 194 110 = (59, 2, 0, 0, 0) := by decide +kernel
theorem c_194_112 : pg_cd 194 112 = (49, 12, 53, 34, 0) := by decide +kernel
theorem c_194_115 : pg_cd 194 115 = (5, 1, 0, 0, 0) := by decide +kernel
theorem c_194_116 : pg_cd 194 116 = (1, 3, 0, 0, 576) := by decide +kernel
theorem c_194_119 : pg_cd 194 119 = (59, 2, 0, 1, 0) := by decide +kernel
theorem c_194_121 : pg_cd 194 121 = (49, 12, 56, 35, 0) := by decide +kernel
theorem c_194_124 : pg_cd 194 124 = (5, 1, 0, 0, 0) := by decide +kernel
theorem c_194_125 : pg_cd 194 125 = (1, 2, 0, 0, 24) := by decide +kernel
theorem c_194_127 : pg_cd 194 127 = (59, 2, 0, 1, 0) := by decide +kernel
theorem c_194_129 : pg_cd 194 129 = (49, 12, 59, 36, 0) := by decide +kernel
theorem c_194_132 : pg_cd 194 132 = (5, 1, 0, 0, 0) := by decide +kernel
theorem c_194_133 : pg_cd 194 133 = (1, 2, 0, 0, 24) := by decide +kernel
theorem c_194_135 : pg_cd 194 135 = (59, 2, 0, 0, 0) := by decide +kernel
theorem c_194_137 : pg_cd 194 137 = (49, 12, 62, 40, 0) := by decide +kernel
theorem c_194_140 : pg_cd 194 140 = (5, 1, 0, 0, 0) := by decide +kernel
theorem c_194_141 : pg_cd 194 141 = (1, 3, 0, 0, 192) := by decide +kernel
theorem c_194_144 : pg_cd 194 144 = (59, 2, 0, 0, 0) := by decide +kernel
theorem c_194_146 : pg_cd 194 146 = (49, 12, 65, 41, 0) := by decide +kernel
theorem c_194_149 : pg_cd 194 149 = (5, 1, 0, 0, 0) := by decide +kernel
theorem c_194_150 : pg_cd 194 150 = (1, 1, 0, 0, (-1)) := by decide +kernel
theorem c_194_151 : pg_cd 194 151 = (46, 12, 68, 42, 0) := by decide +kernel
theorem c_194_154 : pg_cd 194 154 = (5, 1, 0, 0, 0) := by decide +kernel
theorem c_194_155 : pg_cd 194 155 = (45, 12, 8, 0, 0) := by decide +kernel
theorem c_194_158 : pg_cd 194 158 = (1, 2, 0, 0, 12) := by decide +kernel
theorem c_194_160 : pg_cd 194 160 = (1, 2, 71, 0, 100000) := by decide +kernel
theorem c_194_162 : pg_cd 194 162 = (54, 1, 0, 0, 0) := by decide +kernel
theorem c_194_163 : pg_cd 194 163 = (5, 1, 0, 0, 0) := by decide +kernel
theorem c_194_164 : pg_cd 194 164 = (45, 12, 8, 0, 0) := by decide +kernel
theorem c_194_167 : pg_cd 194 167 = (1, 2, 0, 0, 13) := by decide +kernel
theorem c_194_169 : pg_cd 194 169 = (1, 1, 0, 0, (-1)) := by decide +kernel
theorem c_194_170 : pg_cd 194 170 = (54, 1, 0, 0, 0) := by decide +kernel
theorem c_194_171 : pg_cd 194 171 = (5, 1, 0, 0, 0) := by decide +kernel
theorem c_194_172 : pg_cd 194 172 = (45, 12, 8, 0, 0) := by decide +kernel
theorem c_194_175 : pg_cd 194 175 = (1, 2, 0, 0, 14) := by decide +kernel
theorem c_194_177 : pg_cd 194 177 = (1, 1, 0, 0, (-1)) := by decide +kernel
theorem c_194_178 : pg_cd 194 178 = (54, 1, 0, 0, 0) := by decide +kernel
theorem c_194_179 : pg_cd 194 179 = (1, 1, 0, 0, 0) := by decide +kernel
theorem c_194_180 : pg_cd 194 180 = (6, 1, 0, 1, 0) := by decide +kernel
theorem c_194_181 : pg_cd 194 181 = (3, 1, 0, 1, 0) := by decide +kernel
theorem c_194_182 : pg_cd 194 182 = (1, 2, 0, 0, 6) := by decide +kernel
theorem c_194_184 : pg_cd 194 184 = (37, 3, 0, 3, 73) := by decide +kernel
theorem c_194_187 : pg_cd 194 187 = (5, 1, 0, 0, 0) := by decide +kernel
theorem c_194_188 : pg_cd 194 188 = (45, 12, 8, 0, 0) := by decide +kernel
theorem c_194_191 : pg_cd 194 191 = (1, 2, 0, 0, 20) := by decide +kernel
theorem c_194_193 : pg_cd 194 193 = (1, 2, 0, 0, 8) := by decide +kernel
theorem c_194_195 : pg_cd 194 195 = (3, 1, 0, 1, 0) := by decide +kernel
theorem c_194_196 : pg_cd 194 196 = (12, 1, 0, 0, 0) := by decide +kernel
theorem c_194_197 : pg_cd 194 197 = (10, 1, 0, 0, 0) := by decide +kernel
theorem c_194_198 : pg_cd 194 198 = (1, 1, 0, 0, 1) := by decide +kernel
theorem c_194_199 : pg_cd 194 199 = (10, 1, 0, 0, 0) := by decide +kernel
theorem c_194_200 : pg_cd 194 200 = (1, 2, 0, 0, 60) := by decide +kernel
theorem c_194_202 : pg_cd 194 202 = (54, 1, 0, 0, 0) := by decide +kernel
theorem c_194_203 : pg_cd 194 203 = (5, 1, 0, 0, 0) := by decide +kernel
theorem c_194_204 : pg_cd 194 204 = (45, 12, 8, 0, 0) := by decide +kernel
theorem c_194_207 : pg_cd 194 207 = (1, 2, 0, 0, 20) := by decide +kernel
theorem c_194_209 : pg_cd 194 209 = (1, 2, 0, 0, 8) := by decide +kernel
theorem c_194_211 : pg_cd 194 211 = (3, 1, 0, 1, 0) := by decide +kernel
theorem c_194_212 : pg_cd 194 212 = (12, 1, 0, 0, 0) := by decide +kernel
theorem c_194_213 : pg_cd 194 213 = (10, 1, 0, 0, 0) := by decide +kernel
theorem c_194_214 : pg_cd 194 214 = (1, 1, 0, 0, 2) := by decide +kernel
theorem c_194_215 : pg_cd 194 215 = (10, 1, 0, 0, 0) := by decide +kernel
theorem c_194_216 : pg_cd 194 216 = (1, 2, 0, 0, 30) := by decide +kernel
theorem c_194_218 : pg_cd 194 218 = (54, 1, 0, 0, 0) := by decide +kernel
theorem c_194_219 : pg_cd 194 219 = (5, 1, 0, 0, 0) := by decide +kernel
theorem c_194_220 : pg_cd 194 220 = (45, 12, 8, 0, 0) := by decide +kernel
theorem c_194_223 : pg_cd 194 223 = (1, 2, 0, 0, 20) := by decide +kernel
theorem c_194_225 : pg_cd 194 225 = (1, 2, 0, 0, 8) := by decide +kernel
theorem c_194_227 : pg_cd 194 227 = (3, 1, 0, 1, 0) := by decide +kernel
theorem c_194_228 : pg_cd 194 228 = (12, 1, 0, 0, 0) := by decide +kernel
theorem c_194_229 : pg_cd 194 229 = (10, 1, 0, 0, 0) := by decide +kernel
theorem c_194_230 : pg_cd 194 230 = (1, 1, 0, 0, 3) := by decide +kernel
theorem c_194_231 : pg_cd 194 231 = (10, 1, 0, 0, 0) := by decide +kernel
theorem c_194_232 : pg_cd 194 232 = (1, 2, 0, 0, 10) := by decide +kernel
theorem c_194_234 : pg_cd 194 234 = (54, 1, 0, 0, 0) := by decide +kernel
theorem c_194_235 : pg_cd 194 235 = (5, 1, 0, 0, 0) := by decide +kernel
theorem c_194_236 : pg_cd 194 236 = (45, 12, 8, 0, 0) := by decide +kernel
theorem c_194_239 : pg_cd 194 239 = (1, 2, 0, 0, 20) := by decide +kernel
theorem c_194_241 : pg_cd 194 241 = (1, 2, 0, 0, 8) := by decide +kernel
theorem c_194_243 : pg_cd 194 243 = (3, 1, 0, 1, 0) := by decide +kernel
theorem c_194_244 : pg_cd 194 244 = (12, 1, 0, 0, 0) := by decide +kernel
theorem c_194_245 : pg_cd 194 245 = (10, 1, 0, 0, 0) := by decide +kernel
theorem c_194_246 : pg_cd 194 246 = (1, 2, 0, 0, 6) := by decide +kernel
theorem c_194_248 : pg_cd 194 248 = (10, 1, 0, 0, 0) := by decide +kernel
theorem c_194_249 : pg_cd 194 249 = (1, 1, 0, 0, (-1)) := by decide +kernel
theorem c_194_250 : pg_cd 194 250 = (54, 1, 0, 0, 0) := by decide +kernel
theorem c_194_251 : pg_cd 194 251 = (9, 3, 0, 1, 1) := by decide +kernel
theorem c_194_254 : pg_cd 194 254 = (38, 3, 0, 0, (-73)) := by decide +kernel
theorem c_194_257 : pg_cd 194 257 = (1, 1, 0, 0, 0) := by decide +kernel
theorem c_194_258 : pg_cd 194 258 = (6, 1, 0, 1, 0) := by decide +kernel
theorem c_194_259 : pg_cd 194 259 = (3, 1, 0, 1, 0) := by decide +kernel
theorem c_194_260 : pg_cd 194 260 = (1, 2, 0, 0, 8) := by decide +kernel
theorem c_194_262 : pg_cd 194 262 = (37, 3, 0, 3, 40) := by decide +kernel
theorem c_194_265 : pg_cd 194 265 = (5, 1, 0, 0, 0) := by decide +kernel
theorem c_194_266 : pg_cd 194 266 = (45, 12, 8, 0, 0) := by decide +kernel
theorem c_194_269 : pg_cd 194 269 = (1, 2, 0, 0, 70) := by decide +kernel
theorem c_194_271 : pg_cd 194 271 = (3, 1, 0, 1, 0) := by decide +kernel
theorem c_194_272 : pg_cd 194 272 = (10, 1, 0, 0, 0) := by decide +kernel
theorem c_194_273 : pg_cd 194 273 = (3, 1, 0, 1, 0) := by decide +kernel
theorem c_194_274 : pg_cd 194 274 = (36, 3, 0, 1, 9) := by decide +kernel
theorem c_194_277 : pg_cd 194 277 = (1, 3, 0, 0, 1000) := by decide +kernel
theorem c_194_280 : pg_cd 194 280 = (38, 3, 0, 0, 15) := by decide +kernel
theorem c_194_283 : pg_cd 194 283 = (3, 1, 0, 1, 0) := by decide +kernel
theorem c_194_284 : pg_cd 194 284 = (1, 1, 0, 0, 1) := by decide +kernel
theorem c_194_285 : pg_cd 194 285 = (37, 3, 0, 1, 8) := by decide +kernel
theorem c_194_288 : pg_cd 194 288 = (1, 2, 0, 0, 6) := by decide +kernel
theorem c_194_290 : pg_cd 194 290 = (38, 3, 0, 0, 5) := by decide +kernel
theorem c_194_293 : pg_cd 194 293 = (1, 2, 0, 0, 60) := by decide +kernel
theorem c_194_295 : pg_cd 194 295 = (54, 1, 0, 0, 0) := by decide +kernel
theorem c_194_296 : pg_cd 194 296 = (9, 3, 0, 1, 1) := by decide +kernel
theorem c_194_299 : pg_cd 194 299 = (38, 3, 0, 0, (-40)) := by decide +kernel
theorem c_194_302 : pg_cd 194 302 = (5, 1, 0, 0, 0) := by decide +kernel
theorem c_194_303 : pg_cd 194 303 = (45, 12, 8, 0, 0) := by decide +kernel
theorem c_194_306 : pg_cd 194 306 = (5, 1, 0, 0, 0) := by decide +kernel
theorem c_194_307 : pg_cd 194 307 = (45, 12, 14, 1, 0) := by decide +kernel
theorem c_194_310 : pg_cd 194 310 = (81, 195, 72, 0, 0) := by decide +kernel
theorem c_194_313 : pg_cd 194 313 = (94, 0, 0, 0, 0) := by decide +kernel
theorem mi_194 : pg_mc 194 = 12 ∧ pg_na 194 = 0 ∧ pg_mx 194 = 2 := by decide +kernel
def lyS : List (Nat × Nat) := [(111, 0), (108, 0), (104, 0), (0, 36), (104, 0), (0, 3208), (104, 0), (0, 104), (104, 0), (0, 20), (104, 0), (0, 192), (104, 0), (0, 540), (104, 0), (0, 480), (104, 0), (0, 305), (108, 0), (104, 0), (0, 36), (104, 0), (0, 3208), (104, 0), (0, 104), (104, 0), (0, 20), (104, 0), (0, 192), (104, 0), (0, 540), (104, 0), (0, 480), (104, 0), (0, 305), (108, 0), (104, 0), (0, 36), (104, 0), (0, 3208), (104, 0), (0, 104), (104, 0), (0, 20), (104, 0), (0, 192), (104, 0), (0, 540), (104, 0), (0, 480), (104, 0), (0, 305), (109, 0), (101, 0), (10, 20), (1, 64), (1, 64), (100, 0), (13, 400), (0, 60), (0, 60), (0, 48), (103, 0), (0, 301), (0, 301), (0, 301), (105, 0), (1, 576), (0, 24), (1, 216), (1, 216), (0, 9), (0, 8), (0, 8), (0, 8), (1, 24), (102, 0), (0, 4), (106, 0), (0, 192), (0, 192), (0, 300), (112, 0), (0, 112300), (0, 112300), (0, 112300), (0, 300), (0, 160), (1, 320), (1, 320), (2, 320), (0, 24), (0, 60), (0, 60), (0, 24), (1, 576), (1, 24), (0, 24), (0, 192)]
def slS : List Nat := [12, 18, 3, 36, 3, 3208, 3, 104, 3, 20, 3, 192, 3, 540, 3, 480, 3, 305, 18, 3, 36, 3, 3208, 3, 104, 3, 20, 3, 192, 3, 540, 3, 480, 3, 305, 18, 3, 36, 3, 3208, 3, 104, 3, 20, 3, 192, 3, 540, 3, 480, 3, 305, 10, 5, 20, 64, 64, 1, 400, 60, 60, 48, 7, 301, 301, 301, 12, 576, 24, 216, 216, 9, 8, 8, 8, 24, 2, 4, 3, 192, 192, 300, 43, 112300, 112300, 112300, 300, 160, 320, 320, 320, 24, 60, 60, 24, 576, 24, 24, 192]
def rfS : List (Nat × Nat × Nat) := [(3, 1, 4), (2, 0, 3), (5, 1, 6), (2, 1, 5), (7, 1, 8), (2, 2, 7), (9, 1, 10), (2, 3, 9), (11, 1, 12), (2, 4, 11), (13, 1, 14), (2, 5, 13), (15, 1, 16), (2, 6, 15), (17, 1, 18), (2, 7, 17), (1, 0, 2), (20, 1, 21), (19, 0, 20), (22, 1, 23), (19, 1, 22), (24, 1, 25), (19, 2, 24), (26, 1, 27), (19, 3, 26), (28, 1, 29), (19, 4, 28), (30, 1, 31), (19, 5, 30), (32, 1, 33), (19, 6, 32), (34, 1, 35), (19, 7, 34), (1, 1, 19), (37, 1, 38), (36, 0, 37), (39, 1, 40), (36, 1, 39), (41, 1, 42), (36, 2, 41), (43, 1, 44), (36, 3, 43), (45, 1, 46), (36, 4, 45), (47, 1, 48), (36, 5, 47), (49, 1, 50), (36, 6, 49), (51, 1, 52), (36, 7, 51), (1, 2, 36), (54, 0, 55), (54, 1, 56), (54, 2, 57), (53, 0, 54), (58, 0, 59), (53, 1, 58), (53, 2, 60), (53, 3, 61), (53, 4, 62), (1, 3, 53), (1, 4, 54), (1, 5, 58), (63, 0, 64), (63, 1, 65), (63, 2, 66), (1, 6, 63), (67, 0, 68), (67, 1, 69), (67, 2, 70), (67, 3, 71), (67, 4, 72), (67, 5, 73), (67, 6, 74), (67, 7, 75), (67, 8, 76), (1, 7, 67), (77, 0, 78), (1, 8, 77), (79, 0, 80), (79, 1, 81), (1, 9, 79), (1, 10, 82), (83, 0, 84), (83, 1, 85), (83, 2, 86), (83, 3, 87), (83, 15, 88), (83, 19, 89), (83, 20, 90), (83, 21, 91), (83, 26, 92), (83, 32, 93), (83, 33, 94), (83, 34, 95), (83, 35, 96), (83, 36, 97), (83, 40, 98), (83, 41, 99)]
def tSl : Nat → Nat
  | 0 => 0
  | n + 1 => tSl n + (slS[n]?).getD 0
def lkS : Nat → Nat → Nat → Option Nat
  | 0, _, _ => none
  | m + 1, a, b => if a = ((rfS[m]?).getD (0, 0, 0)).1 then (if b = ((rfS[m]?).getD (0, 0, 0)).2.1 then some ((rfS[m]?).getD (0, 0, 0)).2.2 else lkS m a b) else lkS m a b
def frB (n : Nat) : Nat → Bool
  | 0 => true
  | m + 1 => (!decide (((rfS[m]?).getD (0, 0, 0)).1 = n + 1)) && frB n m
theorem lkS_n {n b : Nat} : ∀ m : Nat, frB n m = true → lkS m (n + 1) b = none
  | 0, _ => rfl
  | m + 1, h => by
    have h' : ((!decide (((rfS[m]?).getD (0, 0, 0)).1 = n + 1)) && frB n m) = true := h
    rw [Bool.and_eq_true] at h'
    have h1 : ¬ ((rfS[m]?).getD (0, 0, 0)).1 = n + 1 := by
      intro e
      rw [e] at h'
      simp at h'
    unfold lkS
    rw [if_neg (fun e => h1 e.symm)]
    exact lkS_n m h'.2
/-- the shape when n cells and m references stand -/
def SHs (LL n m : Nat) : zS := (n + 1, tSl n, (fun a => if 1 ≤ a ∧ a ≤ n then (lyS[a - 1]?).getD (0, 0) else (0, LL)), fun a b => lkS m a b)
theorem SH_n {LL n m kd len sl : Nat} (h2 : lyS[n]? = some (kd, len)) (h3 : slS[n]? = some sl) (h4 : frB n m = true) : nS (SHs LL n m) kd len sl = SHs LL (n + 1) m := by
  have e1 : tSl (n + 1) = tSl n + sl := by
    show tSl n + (slS[n]?).getD 0 = tSl n + sl
    rw [h3]; rfl
  unfold nS SHs
  dsimp only
  rw [e1]
  refine Prod.ext rfl (Prod.ext rfl (Prod.ext ?_ ?_))
  · funext a
    dsimp only
    by_cases e : a = n + 1
    · rw [if_pos e, if_pos (by omega), e, show n + 1 - 1 = n by omega, h2]; rfl
    · rw [if_neg e]
      by_cases c : 1 ≤ a ∧ a ≤ n
      · rw [if_pos c, if_pos (by omega)]
      · rw [if_neg c, if_neg (by omega)]
  · funext a
    dsimp only
    by_cases e : a = n + 1
    · rw [if_pos e, e]
      funext b
      exact (lkS_n m h4).symm
    · rw [if_neg e]
theorem SH_p {LL n m i k x : Nat} (h : rfS[m]? = some (i, k, x)) : pS (SHs LL n m) i k x = SHs LL n (m + 1) := by
  unfold pS SHs
  dsimp only
  refine Prod.ext rfl (Prod.ext rfl (Prod.ext rfl ?_))
  funext a b
  show (if a = i then (if b = k then some x else lkS m a b) else lkS m a b) = (if a = ((rfS[m]?).getD (0, 0, 0)).1 then (if b = ((rfS[m]?).getD (0, 0, 0)).2.1 then some ((rfS[m]?).getD (0, 0, 0)).2.2 else lkS m a b) else lkS m a b)
  rw [h]
  rfl
theorem SH_k {LL n m i : Nat} {p : Nat × Nat} (h : (1 ≤ i ∧ i ≤ n) ∧ lyS[i - 1]? = some p) : (SHs LL n m).2.2.1 i = p := by
  show (if 1 ≤ i ∧ i ≤ n then (lyS[i - 1]?).getD (0, 0) else (0, LL)) = p
  rw [if_pos h.1, h.2]; rfl
theorem SH_o {LL n m i kd len : Nat} (h : (1 ≤ i ∧ i ≤ n) ∧ lyS[i - 1]? = some (kd, len)) : oK (SHs LL n m) i kd len := ⟨by omega, by show i < n + 1; omega, SH_k h⟩
section SRL
variable {d M pc a b k LL n m n' m' : Nat} {z : Int} {L st : List Value} {σ τ : zI} {Q : zQ}
theorem s60 (hI : pg_cd M pc = (60, a, b, k, z)) (h1 : n' = n + 1) (h2 : lyS[n]? = some (100 + a, 0)) (h3 : slS[n]? = some k) (h4 : frB n m = true) (t : wi_y d M (pc + 3) L (.ref n' :: st) (SHs LL n' m) (uc σ n' z0) (uc τ n' z0) Q) : wi_y d M pc L st (SHs LL n m) σ τ Q := by
  subst h1
  exact i60_y hI (by rw [SH_n h2 h3 h4]; exact t)
theorem s59 {x : Int} {len : Nat} (hI : pg_cd M pc = (59, a, b, k, z)) (h1 : n' = n + 1) (hx : x = (len : Int)) (hl : len ≤ 1000000) (h2 : lyS[n]? = some (k, len)) (h3 : slS[n]? = some len) (h4 : frB n m = true) (t : wi_y d M (pc + a) L (.ref n' :: st) (SHs LL n' m) (uc σ n' z0) (uc τ n' z0) Q) : wi_y d M pc L (.int (wI x) :: st) (SHs LL n m) σ τ Q := by
  subst h1
  subst hx
  refine i59_y hI ⟨by omega, by omega⟩ ?_
  rw [Int.toNat_natCast, SH_n h2 h3 h4]
  exact t
theorem s49 {x i : Nat} (hI : pg_cd M pc = (49, a, b, k, z)) (ho : (1 ≤ i ∧ i ≤ n) ∧ lyS[i - 1]? = some (100 + a, 0)) (h4 : rfS[m]? = some (i, k, x)) (h5 : m' = m + 1) (t : wi_y d M (pc + 3) L st (SHs LL n m') σ τ Q) : wi_y d M pc L (.ref x :: .ref i :: st) (SHs LL n m) σ τ Q := fun K => g49 hI (oK_ok (SH_o ho)) (fun h1' e => by
  subst h5
  rw [e, hp_pr, SH_p h4]
  exact t ⟨by show 1 ≤ n + 1; omega, K.2.1, K.2.2.1, trivial⟩)
theorem s46 {i : Nat} {v : Int} (hI : pg_cd M pc = (46, a, b, k, z)) (ho : (1 ≤ i ∧ i ≤ n) ∧ lyS[i - 1]? = some (100 + a, 0)) (rv : rg v) (t : wi_y d M (pc + 3) L st (SHs LL n m) (uc σ i (u1 (σ i) (k : Int) v)) τ Q) : wi_y d M pc L (.int (wI v) :: .ref i :: st) (SHs LL n m) σ τ Q := fun K => g46 hI (oK_ok (SH_o ho)) (fun h1 e => by
  have e2 := hp_pi (S := SHs LL n m) (σ := σ) (τ := τ) (c := i) (e := (k : Int)) (w := v) (v := wI v) (Int.natCast_nonneg k) rfl
  rw [Int.toNat_natCast] at e2
  rw [e, e2]
  refine t ⟨K.1, fun c j => ?_, K.2.2.1, trivial⟩
  unfold uc
  split
  · unfold u1
    split
    · exact rv
    · exact K.2.1 i j
  · exact K.2.1 c j)
theorem s45 {i j : Nat} (hI : pg_cd M pc = (45, a, b, k, z)) (ho : (1 ≤ i ∧ i ≤ n) ∧ lyS[i - 1]? = some (100 + a, 0)) (hr : lkS m i k = some j) (t : wi_y d M (pc + 3) L (.ref j :: st) (SHs LL n m) σ τ Q) : wi_y d M pc L (.ref i :: st) (SHs LL n m) σ τ Q := i45_y hI (fun _ => SH_o ho) (fun _ => hr) t
/-- a table made -/
theorem in_52 {x y : Int} {len : Nat} (hn : 1 ≤ n) (hk : lyS[n - 1]? = some (104, 0)) (hxy : x * y = (len : Int)) (hl : len ≤ 1000000) (ry : rg y) (h2 : lyS[n]? = some (0, len)) (h3 : slS[n]? = some len) (h4 : frB n m = true) (h5 : rfS[m]? = some (n, 1, n + 1)) (e1 : n' = n + 1) (e2 : m' = m + 1) (t : Q none (SHs LL n' m') (uc (uc σ n (u1 (σ n) 0 y)) n' z0) (uc τ n' z0)) : wc_y d 52 [.ref n, .int (wI x), .int (wI y)] (SHs LL n m) σ τ Q := by
  subst e1
  refine wc_of_y mi_52 rfl (i5_y c_52_0 rfl (i61_y c_52_1 (Nat.le_of_ble_eq_true rfl) (i5_y c_52_4 rfl (i3_y c_52_5 rfl (s46 c_52_6 ⟨by omega, hk⟩ ry (i5_y c_52_9 rfl (i3_y c_52_10 rfl (i3_y c_52_11 rfl (i12_y c_52_12 (s59 c_52_13 rfl hxy hl h2 h3 h4 (s49 c_52_15 ⟨by omega, hk⟩ h5 e2 (i94_y c_52_18 t))))))))))))
end SRL
theorem in_8_54 {LL : Nat} {σ τ : zI} {Q : zQ} (K : ∀ (σ1 τ1 : zI), (∀ c, c < 54 → σ1 c = σ c) → Q none (SHs LL 57 54) σ1 τ1) : wc_y 57 8 [.ref 54] (SHs LL 54 51) σ τ Q := by
  refine wc_of_y mi_8 rfl ?_
  skip
  refine i5_y c_8_0 rfl (i61_y c_8_1 (Nat.le_of_ble_eq_true rfl) (i5_y c_8_4 rfl (i1_y c_8_5 (s59 (n' := 55) (len := 20) c_8_7 rfl rfl (by decide) rfl rfl rfl (s49 (m' := 52) c_8_10 ⟨⟨by decide, by decide⟩, rfl⟩ rfl rfl (i5_y c_8_13 rfl (i1_y c_8_14 (s59 (n' := 56) (len := 64) c_8_16 rfl rfl (by decide) rfl rfl rfl (s49 (m' := 53) c_8_18 ⟨⟨by decide, by decide⟩, rfl⟩ rfl rfl (i5_y c_8_21 rfl (i1_y c_8_22 (s59 (n' := 57) (len := 64) c_8_24 rfl rfl (by decide) rfl rfl rfl (s49 (m' := 54) c_8_26 ⟨⟨by decide, by decide⟩, rfl⟩ rfl rfl (i5_y c_8_29 rfl (i1_y c_8_30 (s46 c_8_31 ⟨⟨by decide, by decide⟩, rfl⟩ (by decide) (i94_y c_8_34 (K _ _ (fun c hc => ?_)))))))))))))))))))
  · simp (disch := omega) only [uc_n]
theorem in_0_58 {LL : Nat} {σ τ : zI} {Q : zQ} (K : ∀ (σ1 τ1 : zI), (∀ c, c < 58 → σ1 c = σ c) → Q none (SHs LL 59 56) σ1 τ1) : wc_y 57 0 [.ref 58] (SHs LL 58 55) σ τ Q := by
  refine wc_of_y mi_0 rfl ?_
  skip
  refine i5_y c_0_0 rfl (i61_y c_0_1 (Nat.le_of_ble_eq_true rfl) (i5_y c_0_4 rfl (i1_y c_0_5 (s59 (n' := 59) (len := 400) c_0_8 rfl rfl (by decide) rfl rfl rfl (s49 (m' := 56) c_0_11 ⟨⟨by decide, by decide⟩, rfl⟩ rfl rfl (i94_y c_0_14 (K _ _ (fun c hc => ?_))))))))
  · simp (disch := omega) only [uc_n]
theorem in_107_53 {LL : Nat} {σ τ : zI} {Q : zQ} (K : ∀ (σ1 τ1 : zI), (∀ c, c < 53 → σ1 c = σ c) → Q none (SHs LL 62 60) σ1 τ1) : wc_y 58 107 [.ref 53] (SHs LL 53 51) σ τ Q := by
  refine wc_of_y mi_107 rfl ?_
  refine i5_y c_107_0 rfl (i61_y c_107_1 (Nat.le_of_ble_eq_true rfl) (i5_y c_107_4 rfl (s60 (n' := 54) c_107_5 rfl rfl rfl rfl (i33a_y c_107_8 ?_))))
  refine i80_y (As := []) (rest := [.ref 54, .ref 53]) (n := 0) c_107_9 mi_8 rfl rfl (Nat.le_of_ble_eq_true rfl) (Nat.le_of_ble_eq_true rfl) (fun _ => SH_o ⟨⟨by decide, by decide⟩, rfl⟩) (in_8_54 (fun σ54 τ54 fr54 => ?_))
  show wi_y 58 107 12 [.ref 53] [.ref 54, .ref 53] _ _ _ _
  refine s49 (m' := 55) c_107_12 ⟨⟨by decide, by decide⟩, rfl⟩ rfl rfl (i5_y c_107_15 rfl (s60 (n' := 58) c_107_16 rfl rfl rfl rfl (i33a_y c_107_19 ?_)))
  refine i80_y (As := []) (rest := [.ref 58, .ref 53]) (n := 0) c_107_20 mi_0 rfl rfl (Nat.le_of_ble_eq_true rfl) (Nat.le_of_ble_eq_true rfl) (fun _ => SH_o ⟨⟨by decide, by decide⟩, rfl⟩) (in_0_58 (fun σ58 τ58 fr58 => ?_))
  show wi_y 58 107 23 [.ref 53] [.ref 58, .ref 53] _ _ _ _
  refine s49 (m' := 57) c_107_23 ⟨⟨by decide, by decide⟩, rfl⟩ rfl rfl (i5_y c_107_26 rfl (i1_y c_107_27 (s59 (n' := 60) (len := 60) c_107_29 rfl rfl (by decide) rfl rfl rfl (s49 (m' := 58) c_107_31 ⟨⟨by decide, by decide⟩, rfl⟩ rfl rfl (i5_y c_107_34 rfl (i1_y c_107_35 (s59 (n' := 61) (len := 60) c_107_37 rfl rfl (by decide) rfl rfl rfl (s49 (m' := 59) c_107_39 ⟨⟨by decide, by decide⟩, rfl⟩ rfl rfl (i5_y c_107_42 rfl (i1_y c_107_43 (s59 (n' := 62) (len := 48) c_107_45 rfl rfl (by decide) rfl rfl rfl (s49 (m' := 60) c_107_47 ⟨⟨by decide, by decide⟩, rfl⟩ rfl rfl (i94_y c_107_50 (K _ _ (fun c hc => ?_)))))))))))))))
  simp (disch := omega) only [uc_n]
  rw [fr58 c (by omega)]
  simp (disch := omega) only [uc_n]
  rw [fr54 c (by omega)]
  simp (disch := omega) only [uc_n]
theorem in_32_63 {LL : Nat} {σ τ : zI} {Q : zQ} (K : ∀ (σ1 τ1 : zI), (∀ c, c < 63 → σ1 c = σ c) → σ1 63 = u1 (u1 (σ 63) 5 (-1)) 6 (-1) → Q none (SHs LL 66 66) σ1 τ1) : wc_y 58 32 [.ref 63] (SHs LL 63 63) σ τ Q := by
  refine wc_of_y mi_32 rfl ?_
  skip
  refine i5_y c_32_0 rfl (i61_y c_32_1 (Nat.le_of_ble_eq_true rfl) (i5_y c_32_4 rfl (i1_y c_32_5 (s59 (n' := 64) (len := 301) c_32_8 rfl rfl (by decide) rfl rfl rfl (s49 (m' := 64) c_32_10 ⟨⟨by decide, by decide⟩, rfl⟩ rfl rfl (i5_y c_32_13 rfl (i1_y c_32_14 (s59 (n' := 65) (len := 301) c_32_17 rfl rfl (by decide) rfl rfl rfl (s49 (m' := 65) c_32_19 ⟨⟨by decide, by decide⟩, rfl⟩ rfl rfl (i5_y c_32_22 rfl (i1_y c_32_23 (s59 (n' := 66) (len := 301) c_32_26 rfl rfl (by decide) rfl rfl rfl (s49 (m' := 66) c_32_28 ⟨⟨by decide, by decide⟩, rfl⟩ rfl rfl (i5_y c_32_31 rfl (i1_y c_32_32 (s46 c_32_33 ⟨⟨by decide, by decide⟩, rfl⟩ (by decide) (i5_y c_32_36 rfl (i1_y c_32_37 (s46 c_32_38 ⟨⟨by decide, by decide⟩, rfl⟩ (by decide) (i94_y c_32_41 (K _ _ (fun c hc => ?_) ?_)))))))))))))))))))))
  · simp (disch := omega) only [uc_n]
  · simp (disch := decide) only [uc_n, uc_s]
    rfl
theorem in_61_67 {LL : Nat} {σ τ : zI} {Q : zQ} (K : ∀ (σ1 τ1 : zI), (∀ c, c < 67 → σ1 c = σ c) → Q none (SHs LL 76 76) σ1 τ1) : wc_y 58 61 [.ref 67] (SHs LL 67 67) σ τ Q := by
  refine wc_of_y mi_61 rfl ?_
  skip
  refine i5_y c_61_0 rfl (i61_y c_61_1 (Nat.le_of_ble_eq_true rfl) (i5_y c_61_4 rfl (i1_y c_61_5 (s59 (n' := 68) (len := 576) c_61_8 rfl rfl (by decide) rfl rfl rfl (s49 (m' := 68) c_61_10 ⟨⟨by decide, by decide⟩, rfl⟩ rfl rfl (i5_y c_61_13 rfl (i1_y c_61_14 (s59 (n' := 69) (len := 24) c_61_16 rfl rfl (by decide) rfl rfl rfl (s49 (m' := 69) c_61_18 ⟨⟨by decide, by decide⟩, rfl⟩ rfl rfl (i5_y c_61_21 rfl (i1_y c_61_22 (s59 (n' := 70) (len := 216) c_61_25 rfl rfl (by decide) rfl rfl rfl (s49 (m' := 70) c_61_27 ⟨⟨by decide, by decide⟩, rfl⟩ rfl rfl (i5_y c_61_30 rfl (i1_y c_61_31 (s59 (n' := 71) (len := 216) c_61_34 rfl rfl (by decide) rfl rfl rfl (s49 (m' := 71) c_61_36 ⟨⟨by decide, by decide⟩, rfl⟩ rfl rfl (i5_y c_61_39 rfl (i1_y c_61_40 (s59 (n' := 72) (len := 9) c_61_42 rfl rfl (by decide) rfl rfl rfl (s49 (m' := 72) c_61_44 ⟨⟨by decide, by decide⟩, rfl⟩ rfl rfl (i5_y c_61_47 rfl (i1_y c_61_48 (s59 (n' := 73) (len := 8) c_61_50 rfl rfl (by decide) rfl rfl rfl (s49 (m' := 73) c_61_52 ⟨⟨by decide, by decide⟩, rfl⟩ rfl rfl (i5_y c_61_55 rfl (i1_y c_61_56 (s59 (n' := 74) (len := 8) c_61_58 rfl rfl (by decide) rfl rfl rfl (s49 (m' := 74) c_61_60 ⟨⟨by decide, by decide⟩, rfl⟩ rfl rfl (i5_y c_61_63 rfl (i1_y c_61_64 (s59 (n' := 75) (len := 8) c_61_66 rfl rfl (by decide) rfl rfl rfl (s49 (m' := 75) c_61_68 ⟨⟨by decide, by decide⟩, rfl⟩ rfl rfl (i5_y c_61_71 rfl (i1_y c_61_72 (s59 (n' := 76) (len := 24) c_61_74 rfl rfl (by decide) rfl rfl rfl (s49 (m' := 76) c_61_76 ⟨⟨by decide, by decide⟩, rfl⟩ rfl rfl (i94_y c_61_79 (K _ _ (fun c hc => ?_))))))))))))))))))))))))))))))))))))))))
  · simp (disch := omega) only [uc_n]
theorem in_25_77 {LL : Nat} {σ τ : zI} {Q : zQ} (K : ∀ (σ1 τ1 : zI), (∀ c, c < 77 → σ1 c = σ c) → Q none (SHs LL 78 78) σ1 τ1) : wc_y 58 25 [.ref 77] (SHs LL 77 77) σ τ Q := by
  refine wc_of_y mi_25 rfl ?_
  skip
  refine i5_y c_25_0 rfl (i61_y c_25_1 (Nat.le_of_ble_eq_true rfl) (i5_y c_25_4 rfl (i1_y c_25_5 (s59 (n' := 78) (len := 4) c_25_6 rfl rfl (by decide) rfl rfl rfl (s49 (m' := 78) c_25_8 ⟨⟨by decide, by decide⟩, rfl⟩ rfl rfl (i94_y c_25_11 (K _ _ (fun c hc => ?_))))))))
  · simp (disch := omega) only [uc_n]
theorem in_73_79 {LL : Nat} {σ τ : zI} {Q : zQ} (K : ∀ (σ1 τ1 : zI), (∀ c, c < 79 → σ1 c = σ c) → σ1 79 = u1 (σ 79) 2 (-1) → σ1 80 = z0 → Q none (SHs LL 81 81) σ1 τ1) : wc_y 58 73 [.ref 79] (SHs LL 79 79) σ τ Q := by
  refine wc_of_y mi_73 rfl ?_
  skip
  refine i5_y c_73_0 rfl (i61_y c_73_1 (Nat.le_of_ble_eq_true rfl) (i5_y c_73_4 rfl (i1_y c_73_5 (s59 (n' := 80) (len := 192) c_73_8 rfl rfl (by decide) rfl rfl rfl (s49 (m' := 80) c_73_10 ⟨⟨by decide, by decide⟩, rfl⟩ rfl rfl (i5_y c_73_13 rfl (i1_y c_73_14 (s59 (n' := 81) (len := 192) c_73_17 rfl rfl (by decide) rfl rfl rfl (s49 (m' := 81) c_73_19 ⟨⟨by decide, by decide⟩, rfl⟩ rfl rfl (i5_y c_73_22 rfl (i1_y c_73_23 (s46 c_73_24 ⟨⟨by decide, by decide⟩, rfl⟩ (by decide) (i94_y c_73_27 (K _ _ (fun c hc => ?_) ?_ ?_))))))))))))))
  · simp (disch := omega) only [uc_n]
  · simp (disch := decide) only [uc_n, uc_s]
    rfl
  · simp (disch := decide) only [uc_n, uc_s]
theorem in_86a_2 {LL : Nat} {σ τ : zI} {Q : zQ} (K : ∀ (σ1 τ1 : zI), (∀ c, c < 2 → σ1 c = σ c) → σ1 2 = u1 (u1 (u1 (σ 2) 12 100000) 16 (-1)) 17 (-1) → σ1 3 = u1 z0 0 6 → σ1 5 = u1 z0 0 401 → σ1 7 = u1 z0 0 13 → σ1 9 = u1 z0 0 5 → σ1 11 = u1 z0 0 8 → σ1 13 = u1 z0 0 9 → σ1 15 = u1 z0 0 6 → σ1 17 = u1 z0 0 5 → σ1 4 = z0 → σ1 6 = z0 → σ1 8 = z0 → σ1 10 = z0 → σ1 12 = z0 → σ1 14 = z0 → σ1 16 = z0 → σ1 18 = z0 → wi_y 58 86 138 [.ref 2, .retAddr 0] [] (SHs LL 18 16) σ1 τ1 Q) : wc_y 58 86 [.ref 2] (SHs LL 2 0) σ τ Q := by
  refine wc_of_y mi_86 rfl ?_
  refine i5_y c_86_0 rfl (i61_y c_86_1 (Nat.le_of_ble_eq_true rfl) (i5_y c_86_4 rfl (s60 (n' := 3) c_86_5 rfl rfl rfl rfl (i33a_y c_86_8 (i1_y c_86_9 (i1_y c_86_11 ?_))))))
  refine i80_y (As := [.int (wI 6), .int (wI 6)]) (rest := [.ref 3, .ref 2]) (n := 0) c_86_13 mi_52 rfl rfl (Nat.le_of_ble_eq_true rfl) (Nat.le_of_ble_eq_true rfl) (fun _ => SH_o ⟨⟨by decide, by decide⟩, rfl⟩) (in_52 (n' := 4) (m' := 1) (len := 36) (by decide) rfl rfl (by decide) (by decide) rfl rfl rfl rfl rfl rfl ?_)
  show wi_y 58 86 16 [.ref 2, .retAddr 0] [.ref 3, .ref 2] _ _ _ _
  refine s49 (m' := 2) c_86_16 ⟨⟨by decide, by decide⟩, rfl⟩ rfl rfl (i5_y c_86_19 rfl (s60 (n' := 5) c_86_20 rfl rfl rfl rfl (i33a_y c_86_23 (i1_y c_86_24 (i1_y c_86_26 ?_)))))
  refine i80_y (As := [.int (wI 8), .int (wI 401)]) (rest := [.ref 5, .ref 2]) (n := 0) c_86_29 mi_52 rfl rfl (Nat.le_of_ble_eq_true rfl) (Nat.le_of_ble_eq_true rfl) (fun _ => SH_o ⟨⟨by decide, by decide⟩, rfl⟩) (in_52 (n' := 6) (m' := 3) (len := 3208) (by decide) rfl rfl (by decide) (by decide) rfl rfl rfl rfl rfl rfl ?_)
  show wi_y 58 86 32 [.ref 2, .retAddr 0] [.ref 5, .ref 2] _ _ _ _
  refine s49 (m' := 4) c_86_32 ⟨⟨by decide, by decide⟩, rfl⟩ rfl rfl (i5_y c_86_35 rfl (s60 (n' := 7) c_86_36 rfl rfl rfl rfl (i33a_y c_86_39 (i1_y c_86_40 (i1_y c_86_42 ?_)))))
  refine i80_y (As := [.int (wI 8), .int (wI 13)]) (rest := [.ref 7, .ref 2]) (n := 0) c_86_44 mi_52 rfl rfl (Nat.le_of_ble_eq_true rfl) (Nat.le_of_ble_eq_true rfl) (fun _ => SH_o ⟨⟨by decide, by decide⟩, rfl⟩) (in_52 (n' := 8) (m' := 5) (len := 104) (by decide) rfl rfl (by decide) (by decide) rfl rfl rfl rfl rfl rfl ?_)
  show wi_y 58 86 47 [.ref 2, .retAddr 0] [.ref 7, .ref 2] _ _ _ _
  refine s49 (m' := 6) c_86_47 ⟨⟨by decide, by decide⟩, rfl⟩ rfl rfl (i5_y c_86_50 rfl (s60 (n' := 9) c_86_51 rfl rfl rfl rfl (i33a_y c_86_54 (i1_y c_86_55 (i1_y c_86_56 ?_)))))
  refine i80_y (As := [.int (wI 4), .int (wI 5)]) (rest := [.ref 9, .ref 2]) (n := 0) c_86_57 mi_52 rfl rfl (Nat.le_of_ble_eq_true rfl) (Nat.le_of_ble_eq_true rfl) (fun _ => SH_o ⟨⟨by decide, by decide⟩, rfl⟩) (in_52 (n' := 10) (m' := 7) (len := 20) (by decide) rfl rfl (by decide) (by decide) rfl rfl rfl rfl rfl rfl ?_)
  show wi_y 58 86 60 [.ref 2, .retAddr 0] [.ref 9, .ref 2] _ _ _ _
  refine s49 (m' := 8) c_86_60 ⟨⟨by decide, by decide⟩, rfl⟩ rfl rfl (i5_y c_86_63 rfl (s60 (n' := 11) c_86_64 rfl rfl rfl rfl (i33a_y c_86_67 (i1_y c_86_68 (i1_y c_86_70 ?_)))))
  refine i80_y (As := [.int (wI 24), .int (wI 8)]) (rest := [.ref 11, .ref 2]) (n := 0) c_86_72 mi_52 rfl rfl (Nat.le_of_ble_eq_true rfl) (Nat.le_of_ble_eq_true rfl) (fun _ => SH_o ⟨⟨by decide, by decide⟩, rfl⟩) (in_52 (n' := 12) (m' := 9) (len := 192) (by decide) rfl rfl (by decide) (by decide) rfl rfl rfl rfl rfl rfl ?_)
  show wi_y 58 86 75 [.ref 2, .retAddr 0] [.ref 11, .ref 2] _ _ _ _
  refine s49 (m' := 10) c_86_75 ⟨⟨by decide, by decide⟩, rfl⟩ rfl rfl (i5_y c_86_78 rfl (s60 (n' := 13) c_86_79 rfl rfl rfl rfl (i33a_y c_86_82 (i1_y c_86_83 (i1_y c_86_85 ?_)))))
  refine i80_y (As := [.int (wI 60), .int (wI 9)]) (rest := [.ref 13, .ref 2]) (n := 0) c_86_87 mi_52 rfl rfl (Nat.le_of_ble_eq_true rfl) (Nat.le_of_ble_eq_true rfl) (fun _ => SH_o ⟨⟨by decide, by decide⟩, rfl⟩) (in_52 (n' := 14) (m' := 11) (len := 540) (by decide) rfl rfl (by decide) (by decide) rfl rfl rfl rfl rfl rfl ?_)
  show wi_y 58 86 90 [.ref 2, .retAddr 0] [.ref 13, .ref 2] _ _ _ _
  refine s49 (m' := 12) c_86_90 ⟨⟨by decide, by decide⟩, rfl⟩ rfl rfl (i5_y c_86_93 rfl (s60 (n' := 15) c_86_94 rfl rfl rfl rfl (i33a_y c_86_97 (i1_y c_86_98 (i1_y c_86_100 ?_)))))
  refine i80_y (As := [.int (wI 80), .int (wI 6)]) (rest := [.ref 15, .ref 2]) (n := 0) c_86_102 mi_52 rfl rfl (Nat.le_of_ble_eq_true rfl) (Nat.le_of_ble_eq_true rfl) (fun _ => SH_o ⟨⟨by decide, by decide⟩, rfl⟩) (in_52 (n' := 16) (m' := 13) (len := 480) (by decide) rfl rfl (by decide) (by decide) rfl rfl rfl rfl rfl rfl ?_)
  show wi_y 58 86 105 [.ref 2, .retAddr 0] [.ref 15, .ref 2] _ _ _ _
  refine s49 (m' := 14) c_86_105 ⟨⟨by decide, by decide⟩, rfl⟩ rfl rfl (i5_y c_86_108 rfl (s60 (n' := 17) c_86_109 rfl rfl rfl rfl (i33a_y c_86_112 (i1_y c_86_113 (i1_y c_86_115 ?_)))))
  refine i80_y (As := [.int (wI 61), .int (wI 5)]) (rest := [.ref 17, .ref 2]) (n := 0) c_86_116 mi_52 rfl rfl (Nat.le_of_ble_eq_true rfl) (Nat.le_of_ble_eq_true rfl) (fun _ => SH_o ⟨⟨by decide, by decide⟩, rfl⟩) (in_52 (n' := 18) (m' := 15) (len := 305) (by decide) rfl rfl (by decide) (by decide) rfl rfl rfl rfl rfl rfl ?_)
  show wi_y 58 86 119 [.ref 2, .retAddr 0] [.ref 17, .ref 2] _ _ _ _
  refine s49 (m' := 16) c_86_119 ⟨⟨by decide, by decide⟩, rfl⟩ rfl rfl (i5_y c_86_122 rfl (i1_y c_86_123 (s46 c_86_125 ⟨⟨by decide, by decide⟩, rfl⟩ (by decide) (i5_y c_86_128 rfl (i1_y c_86_129 (s46 c_86_130 ⟨⟨by decide, by decide⟩, rfl⟩ (by decide) (i5_y c_86_133 rfl (i1_y c_86_134 (s46 c_86_135 ⟨⟨by decide, by decide⟩, rfl⟩ (by decide) ?_)))))))))
  refine K _ _ (fun c hc => ?_) ?_ ?_ ?_ ?_ ?_ ?_ ?_ ?_ ?_ ?_ ?_ ?_ ?_ ?_ ?_ ?_ ?_
  · simp (disch := omega) only [uc_n]
  · simp (disch := decide) only [uc_n, uc_s]
    try rfl
  · simp (disch := decide) only [uc_n, uc_s]
    try rfl
  · simp (disch := decide) only [uc_n, uc_s]
    try rfl
  · simp (disch := decide) only [uc_n, uc_s]
    try rfl
  · simp (disch := decide) only [uc_n, uc_s]
    try rfl
  · simp (disch := decide) only [uc_n, uc_s]
    try rfl
  · simp (disch := decide) only [uc_n, uc_s]
    try rfl
  · simp (disch := decide) only [uc_n, uc_s]
    try rfl
  · simp (disch := decide) only [uc_n, uc_s]
    try rfl
  · simp (disch := decide) only [uc_n, uc_s]
    try rfl
  · simp (disch := decide) only [uc_n, uc_s]
    try rfl
  · simp (disch := decide) only [uc_n, uc_s]
    try rfl
  · simp (disch := decide) only [uc_n, uc_s]
    try rfl
  · simp (disch := decide) only [uc_n, uc_s]
    try rfl
  · simp (disch := decide) only [uc_n, uc_s]
    try rfl
  · simp (disch := decide) only [uc_n, uc_s]
    try rfl
  · simp (disch := decide) only [uc_n, uc_s]
    try rfl
theorem in_86a_19 {LL : Nat} {σ τ : zI} {Q : zQ} (K : ∀ (σ1 τ1 : zI), (∀ c, c < 19 → σ1 c = σ c) → σ1 19 = u1 (u1 (u1 (σ 19) 12 100000) 16 (-1)) 17 (-1) → σ1 20 = u1 z0 0 6 → σ1 22 = u1 z0 0 401 → σ1 24 = u1 z0 0 13 → σ1 26 = u1 z0 0 5 → σ1 28 = u1 z0 0 8 → σ1 30 = u1 z0 0 9 → σ1 32 = u1 z0 0 6 → σ1 34 = u1 z0 0 5 → σ1 21 = z0 → σ1 23 = z0 → σ1 25 = z0 → σ1 27 = z0 → σ1 29 = z0 → σ1 31 = z0 → σ1 33 = z0 → σ1 35 = z0 → wi_y 58 86 138 [.ref 19, .retAddr 0] [] (SHs LL 35 33) σ1 τ1 Q) : wc_y 58 86 [.ref 19] (SHs LL 19 17) σ τ Q := by
  refine wc_of_y mi_86 rfl ?_
  refine i5_y c_86_0 rfl (i61_y c_86_1 (Nat.le_of_ble_eq_true rfl) (i5_y c_86_4 rfl (s60 (n' := 20) c_86_5 rfl rfl rfl rfl (i33a_y c_86_8 (i1_y c_86_9 (i1_y c_86_11 ?_))))))
  refine i80_y (As := [.int (wI 6), .int (wI 6)]) (rest := [.ref 20, .ref 19]) (n := 0) c_86_13 mi_52 rfl rfl (Nat.le_of_ble_eq_true rfl) (Nat.le_of_ble_eq_true rfl) (fun _ => SH_o ⟨⟨by decide, by decide⟩, rfl⟩) (in_52 (n' := 21) (m' := 18) (len := 36) (by decide) rfl rfl (by decide) (by decide) rfl rfl rfl rfl rfl rfl ?_)
  show wi_y 58 86 16 [.ref 19, .retAddr 0] [.ref 20, .ref 19] _ _ _ _
  refine s49 (m' := 19) c_86_16 ⟨⟨by decide, by decide⟩, rfl⟩ rfl rfl (i5_y c_86_19 rfl (s60 (n' := 22) c_86_20 rfl rfl rfl rfl (i33a_y c_86_23 (i1_y c_86_24 (i1_y c_86_26 ?_)))))
  refine i80_y (As := [.int (wI 8), .int (wI 401)]) (rest := [.ref 22, .ref 19]) (n := 0) c_86_29 mi_52 rfl rfl (Nat.le_of_ble_eq_true rfl) (Nat.le_of_ble_eq_true rfl) (fun _ => SH_o ⟨⟨by decide, by decide⟩, rfl⟩) (in_52 (n' := 23) (m' := 20) (len := 3208) (by decide) rfl rfl (by decide) (by decide) rfl rfl rfl rfl rfl rfl ?_)
  show wi_y 58 86 32 [.ref 19, .retAddr 0] [.ref 22, .ref 19] _ _ _ _
  refine s49 (m' := 21) c_86_32 ⟨⟨by decide, by decide⟩, rfl⟩ rfl rfl (i5_y c_86_35 rfl (s60 (n' := 24) c_86_36 rfl rfl rfl rfl (i33a_y c_86_39 (i1_y c_86_40 (i1_y c_86_42 ?_)))))
  refine i80_y (As := [.int (wI 8), .int (wI 13)]) (rest := [.ref 24, .ref 19]) (n := 0) c_86_44 mi_52 rfl rfl (Nat.le_of_ble_eq_true rfl) (Nat.le_of_ble_eq_true rfl) (fun _ => SH_o ⟨⟨by decide, by decide⟩, rfl⟩) (in_52 (n' := 25) (m' := 22) (len := 104) (by decide) rfl rfl (by decide) (by decide) rfl rfl rfl rfl rfl rfl ?_)
  show wi_y 58 86 47 [.ref 19, .retAddr 0] [.ref 24, .ref 19] _ _ _ _
  refine s49 (m' := 23) c_86_47 ⟨⟨by decide, by decide⟩, rfl⟩ rfl rfl (i5_y c_86_50 rfl (s60 (n' := 26) c_86_51 rfl rfl rfl rfl (i33a_y c_86_54 (i1_y c_86_55 (i1_y c_86_56 ?_)))))
  refine i80_y (As := [.int (wI 4), .int (wI 5)]) (rest := [.ref 26, .ref 19]) (n := 0) c_86_57 mi_52 rfl rfl (Nat.le_of_ble_eq_true rfl) (Nat.le_of_ble_eq_true rfl) (fun _ => SH_o ⟨⟨by decide, by decide⟩, rfl⟩) (in_52 (n' := 27) (m' := 24) (len := 20) (by decide) rfl rfl (by decide) (by decide) rfl rfl rfl rfl rfl rfl ?_)
  show wi_y 58 86 60 [.ref 19, .retAddr 0] [.ref 26, .ref 19] _ _ _ _
  refine s49 (m' := 25) c_86_60 ⟨⟨by decide, by decide⟩, rfl⟩ rfl rfl (i5_y c_86_63 rfl (s60 (n' := 28) c_86_64 rfl rfl rfl rfl (i33a_y c_86_67 (i1_y c_86_68 (i1_y c_86_70 ?_)))))
  refine i80_y (As := [.int (wI 24), .int (wI 8)]) (rest := [.ref 28, .ref 19]) (n := 0) c_86_72 mi_52 rfl rfl (Nat.le_of_ble_eq_true rfl) (Nat.le_of_ble_eq_true rfl) (fun _ => SH_o ⟨⟨by decide, by decide⟩, rfl⟩) (in_52 (n' := 29) (m' := 26) (len := 192) (by decide) rfl rfl (by decide) (by decide) rfl rfl rfl rfl rfl rfl ?_)
  show wi_y 58 86 75 [.ref 19, .retAddr 0] [.ref 28, .ref 19] _ _ _ _
  refine s49 (m' := 27) c_86_75 ⟨⟨by decide, by decide⟩, rfl⟩ rfl rfl (i5_y c_86_78 rfl (s60 (n' := 30) c_86_79 rfl rfl rfl rfl (i33a_y c_86_82 (i1_y c_86_83 (i1_y c_86_85 ?_)))))
  refine i80_y (As := [.int (wI 60), .int (wI 9)]) (rest := [.ref 30, .ref 19]) (n := 0) c_86_87 mi_52 rfl rfl (Nat.le_of_ble_eq_true rfl) (Nat.le_of_ble_eq_true rfl) (fun _ => SH_o ⟨⟨by decide, by decide⟩, rfl⟩) (in_52 (n' := 31) (m' := 28) (len := 540) (by decide) rfl rfl (by decide) (by decide) rfl rfl rfl rfl rfl rfl ?_)
  show wi_y 58 86 90 [.ref 19, .retAddr 0] [.ref 30, .ref 19] _ _ _ _
  refine s49 (m' := 29) c_86_90 ⟨⟨by decide, by decide⟩, rfl⟩ rfl rfl (i5_y c_86_93 rfl (s60 (n' := 32) c_86_94 rfl rfl rfl rfl (i33a_y c_86_97 (i1_y c_86_98 (i1_y c_86_100 ?_)))))
  refine i80_y (As := [.int (wI 80), .int (wI 6)]) (rest := [.ref 32, .ref 19]) (n := 0) c_86_102 mi_52 rfl rfl (Nat.le_of_ble_eq_true rfl) (Nat.le_of_ble_eq_true rfl) (fun _ => SH_o ⟨⟨by decide, by decide⟩, rfl⟩) (in_52 (n' := 33) (m' := 30) (len := 480) (by decide) rfl rfl (by decide) (by decide) rfl rfl rfl rfl rfl rfl ?_)
  show wi_y 58 86 105 [.ref 19, .retAddr 0] [.ref 32, .ref 19] _ _ _ _
  refine s49 (m' := 31) c_86_105 ⟨⟨by decide, by decide⟩, rfl⟩ rfl rfl (i5_y c_86_108 rfl (s60 (n' := 34) c_86_109 rfl rfl rfl rfl (i33a_y c_86_112 (i1_y c_86_113 (i1_y c_86_115 ?_)))))
  refine i80_y (As := [.int (wI 61), .int (wI 5)]) (rest := [.ref 34, .ref 19]) (n := 0) c_86_116 mi_52 rfl rfl (Nat.le_of_ble_eq_true rfl) (Nat.le_of_ble_eq_true rfl) (fun _ => SH_o ⟨⟨by decide, by decide⟩, rfl⟩) (in_52 (n' := 35) (m' := 32) (len := 305) (by decide) rfl rfl (by decide) (by decide) rfl rfl rfl rfl rfl rfl ?_)
  show wi_y 58 86 119 [.ref 19, .retAddr 0] [.ref 34, .ref 19] _ _ _ _
  refine s49 (m' := 33) c_86_119 ⟨⟨by decide, by decide⟩, rfl⟩ rfl rfl (i5_y c_86_122 rfl (i1_y c_86_123 (s46 c_86_125 ⟨⟨by decide, by decide⟩, rfl⟩ (by decide) (i5_y c_86_128 rfl (i1_y c_86_129 (s46 c_86_130 ⟨⟨by decide, by decide⟩, rfl⟩ (by decide) (i5_y c_86_133 rfl (i1_y c_86_134 (s46 c_86_135 ⟨⟨by decide, by decide⟩, rfl⟩ (by decide) ?_)))))))))
  refine K _ _ (fun c hc => ?_) ?_ ?_ ?_ ?_ ?_ ?_ ?_ ?_ ?_ ?_ ?_ ?_ ?_ ?_ ?_ ?_ ?_
  · simp (disch := omega) only [uc_n]
  · simp (disch := decide) only [uc_n, uc_s]
    try rfl
  · simp (disch := decide) only [uc_n, uc_s]
    try rfl
  · simp (disch := decide) only [uc_n, uc_s]
    try rfl
  · simp (disch := decide) only [uc_n, uc_s]
    try rfl
  · simp (disch := decide) only [uc_n, uc_s]
    try rfl
  · simp (disch := decide) only [uc_n, uc_s]
    try rfl
  · simp (disch := decide) only [uc_n, uc_s]
    try rfl
  · simp (disch := decide) only [uc_n, uc_s]
    try rfl
  · simp (disch := decide) only [uc_n, uc_s]
    try rfl
  · simp (disch := decide) only [uc_n, uc_s]
    try rfl
  · simp (disch := decide) only [uc_n, uc_s]
    try rfl
  · simp (disch := decide) only [uc_n, uc_s]
    try rfl
  · simp (disch := decide) only [uc_n, uc_s]
    try rfl
  · simp (disch := decide) only [uc_n, uc_s]
    try rfl
  · simp (disch := decide) only [uc_n, uc_s]
    try rfl
  · simp (disch := decide) only [uc_n, uc_s]
    try rfl
  · simp (disch := decide) only [uc_n, uc_s]
    try rfl
theorem in_86a_36 {LL : Nat} {σ τ : zI} {Q : zQ} (K : ∀ (σ1 τ1 : zI), (∀ c, c < 36 → σ1 c = σ c) → σ1 36 = u1 (u1 (u1 (σ 36) 12 100000) 16 (-1)) 17 (-1) → σ1 37 = u1 z0 0 6 → σ1 39 = u1 z0 0 401 → σ1 41 = u1 z0 0 13 → σ1 43 = u1 z0 0 5 → σ1 45 = u1 z0 0 8 → σ1 47 = u1 z0 0 9 → σ1 49 = u1 z0 0 6 → σ1 51 = u1 z0 0 5 → σ1 38 = z0 → σ1 40 = z0 → σ1 42 = z0 → σ1 44 = z0 → σ1 46 = z0 → σ1 48 = z0 → σ1 50 = z0 → σ1 52 = z0 → wi_y 58 86 138 [.ref 36, .retAddr 0] [] (SHs LL 52 50) σ1 τ1 Q) : wc_y 58 86 [.ref 36] (SHs LL 36 34) σ τ Q := by
  refine wc_of_y mi_86 rfl ?_
  refine i5_y c_86_0 rfl (i61_y c_86_1 (Nat.le_of_ble_eq_true rfl) (i5_y c_86_4 rfl (s60 (n' := 37) c_86_5 rfl rfl rfl rfl (i33a_y c_86_8 (i1_y c_86_9 (i1_y c_86_11 ?_))))))
  refine i80_y (As := [.int (wI 6), .int (wI 6)]) (rest := [.ref 37, .ref 36]) (n := 0) c_86_13 mi_52 rfl rfl (Nat.le_of_ble_eq_true rfl) (Nat.le_of_ble_eq_true rfl) (fun _ => SH_o ⟨⟨by decide, by decide⟩, rfl⟩) (in_52 (n' := 38) (m' := 35) (len := 36) (by decide) rfl rfl (by decide) (by decide) rfl rfl rfl rfl rfl rfl ?_)
  show wi_y 58 86 16 [.ref 36, .retAddr 0] [.ref 37, .ref 36] _ _ _ _
  refine s49 (m' := 36) c_86_16 ⟨⟨by decide, by decide⟩, rfl⟩ rfl rfl (i5_y c_86_19 rfl (s60 (n' := 39) c_86_20 rfl rfl rfl rfl (i33a_y c_86_23 (i1_y c_86_24 (i1_y c_86_26 ?_)))))
  refine i80_y (As := [.int (wI 8), .int (wI 401)]) (rest := [.ref 39, .ref 36]) (n := 0) c_86_29 mi_52 rfl rfl (Nat.le_of_ble_eq_true rfl) (Nat.le_of_ble_eq_true rfl) (fun _ => SH_o ⟨⟨by decide, by decide⟩, rfl⟩) (in_52 (n' := 40) (m' := 37) (len := 3208) (by decide) rfl rfl (by decide) (by decide) rfl rfl rfl rfl rfl rfl ?_)
  show wi_y 58 86 32 [.ref 36, .retAddr 0] [.ref 39, .ref 36] _ _ _ _
  refine s49 (m' := 38) c_86_32 ⟨⟨by decide, by decide⟩, rfl⟩ rfl rfl (i5_y c_86_35 rfl (s60 (n' := 41) c_86_36 rfl rfl rfl rfl (i33a_y c_86_39 (i1_y c_86_40 (i1_y c_86_42 ?_)))))
  refine i80_y (As := [.int (wI 8), .int (wI 13)]) (rest := [.ref 41, .ref 36]) (n := 0) c_86_44 mi_52 rfl rfl (Nat.le_of_ble_eq_true rfl) (Nat.le_of_ble_eq_true rfl) (fun _ => SH_o ⟨⟨by decide, by decide⟩, rfl⟩) (in_52 (n' := 42) (m' := 39) (len := 104) (by decide) rfl rfl (by decide) (by decide) rfl rfl rfl rfl rfl rfl ?_)
  show wi_y 58 86 47 [.ref 36, .retAddr 0] [.ref 41, .ref 36] _ _ _ _
  refine s49 (m' := 40) c_86_47 ⟨⟨by decide, by decide⟩, rfl⟩ rfl rfl (i5_y c_86_50 rfl (s60 (n' := 43) c_86_51 rfl rfl rfl rfl (i33a_y c_86_54 (i1_y c_86_55 (i1_y c_86_56 ?_)))))
  refine i80_y (As := [.int (wI 4), .int (wI 5)]) (rest := [.ref 43, .ref 36]) (n := 0) c_86_57 mi_52 rfl rfl (Nat.le_of_ble_eq_true rfl) (Nat.le_of_ble_eq_true rfl) (fun _ => SH_o ⟨⟨by decide, by decide⟩, rfl⟩) (in_52 (n' := 44) (m' := 41) (len := 20) (by decide) rfl rfl (by decide) (by decide) rfl rfl rfl rfl rfl rfl ?_)
  show wi_y 58 86 60 [.ref 36, .retAddr 0] [.ref 43, .ref 36] _ _ _ _
  refine s49 (m' := 42) c_86_60 ⟨⟨by decide, by decide⟩, rfl⟩ rfl rfl (i5_y c_86_63 rfl (s60 (n' := 45) c_86_64 rfl rfl rfl rfl (i33a_y c_86_67 (i1_y c_86_68 (i1_y c_86_70 ?_)))))
  refine i80_y (As := [.int (wI 24), .int (wI 8)]) (rest := [.ref 45, .ref 36]) (n := 0) c_86_72 mi_52 rfl rfl (Nat.le_of_ble_eq_true rfl) (Nat.le_of_ble_eq_true rfl) (fun _ => SH_o ⟨⟨by decide, by decide⟩, rfl⟩) (in_52 (n' := 46) (m' := 43) (len := 192) (by decide) rfl rfl (by decide) (by decide) rfl rfl rfl rfl rfl rfl ?_)
  show wi_y 58 86 75 [.ref 36, .retAddr 0] [.ref 45, .ref 36] _ _ _ _
  refine s49 (m' := 44) c_86_75 ⟨⟨by decide, by decide⟩, rfl⟩ rfl rfl (i5_y c_86_78 rfl (s60 (n' := 47) c_86_79 rfl rfl rfl rfl (i33a_y c_86_82 (i1_y c_86_83 (i1_y c_86_85 ?_)))))
  refine i80_y (As := [.int (wI 60), .int (wI 9)]) (rest := [.ref 47, .ref 36]) (n := 0) c_86_87 mi_52 rfl rfl (Nat.le_of_ble_eq_true rfl) (Nat.le_of_ble_eq_true rfl) (fun _ => SH_o ⟨⟨by decide, by decide⟩, rfl⟩) (in_52 (n' := 48) (m' := 45) (len := 540) (by decide) rfl rfl (by decide) (by decide) rfl rfl rfl rfl rfl rfl ?_)
  show wi_y 58 86 90 [.ref 36, .retAddr 0] [.ref 47, .ref 36] _ _ _ _
  refine s49 (m' := 46) c_86_90 ⟨⟨by decide, by decide⟩, rfl⟩ rfl rfl (i5_y c_86_93 rfl (s60 (n' := 49) c_86_94 rfl rfl rfl rfl (i33a_y c_86_97 (i1_y c_86_98 (i1_y c_86_100 ?_)))))
  refine i80_y (As := [.int (wI 80), .int (wI 6)]) (rest := [.ref 49, .ref 36]) (n := 0) c_86_102 mi_52 rfl rfl (Nat.le_of_ble_eq_true rfl) (Nat.le_of_ble_eq_true rfl) (fun _ => SH_o ⟨⟨by decide, by decide⟩, rfl⟩) (in_52 (n' := 50) (m' := 47) (len := 480) (by decide) rfl rfl (by decide) (by decide) rfl rfl rfl rfl rfl rfl ?_)
  show wi_y 58 86 105 [.ref 36, .retAddr 0] [.ref 49, .ref 36] _ _ _ _
  refine s49 (m' := 48) c_86_105 ⟨⟨by decide, by decide⟩, rfl⟩ rfl rfl (i5_y c_86_108 rfl (s60 (n' := 51) c_86_109 rfl rfl rfl rfl (i33a_y c_86_112 (i1_y c_86_113 (i1_y c_86_115 ?_)))))
  refine i80_y (As := [.int (wI 61), .int (wI 5)]) (rest := [.ref 51, .ref 36]) (n := 0) c_86_116 mi_52 rfl rfl (Nat.le_of_ble_eq_true rfl) (Nat.le_of_ble_eq_true rfl) (fun _ => SH_o ⟨⟨by decide, by decide⟩, rfl⟩) (in_52 (n' := 52) (m' := 49) (len := 305) (by decide) rfl rfl (by decide) (by decide) rfl rfl rfl rfl rfl rfl ?_)
  show wi_y 58 86 119 [.ref 36, .retAddr 0] [.ref 51, .ref 36] _ _ _ _
  refine s49 (m' := 50) c_86_119 ⟨⟨by decide, by decide⟩, rfl⟩ rfl rfl (i5_y c_86_122 rfl (i1_y c_86_123 (s46 c_86_125 ⟨⟨by decide, by decide⟩, rfl⟩ (by decide) (i5_y c_86_128 rfl (i1_y c_86_129 (s46 c_86_130 ⟨⟨by decide, by decide⟩, rfl⟩ (by decide) (i5_y c_86_133 rfl (i1_y c_86_134 (s46 c_86_135 ⟨⟨by decide, by decide⟩, rfl⟩ (by decide) ?_)))))))))
  refine K _ _ (fun c hc => ?_) ?_ ?_ ?_ ?_ ?_ ?_ ?_ ?_ ?_ ?_ ?_ ?_ ?_ ?_ ?_ ?_ ?_
  · simp (disch := omega) only [uc_n]
  · simp (disch := decide) only [uc_n, uc_s]
    try rfl
  · simp (disch := decide) only [uc_n, uc_s]
    try rfl
  · simp (disch := decide) only [uc_n, uc_s]
    try rfl
  · simp (disch := decide) only [uc_n, uc_s]
    try rfl
  · simp (disch := decide) only [uc_n, uc_s]
    try rfl
  · simp (disch := decide) only [uc_n, uc_s]
    try rfl
  · simp (disch := decide) only [uc_n, uc_s]
    try rfl
  · simp (disch := decide) only [uc_n, uc_s]
    try rfl
  · simp (disch := decide) only [uc_n, uc_s]
    try rfl
  · simp (disch := decide) only [uc_n, uc_s]
    try rfl
  · simp (disch := decide) only [uc_n, uc_s]
    try rfl
  · simp (disch := decide) only [uc_n, uc_s]
    try rfl
  · simp (disch := decide) only [uc_n, uc_s]
    try rfl
  · simp (disch := decide) only [uc_n, uc_s]
    try rfl
  · simp (disch := decide) only [uc_n, uc_s]
    try rfl
  · simp (disch := decide) only [uc_n, uc_s]
    try rfl
  · simp (disch := decide) only [uc_n, uc_s]
    try rfl
