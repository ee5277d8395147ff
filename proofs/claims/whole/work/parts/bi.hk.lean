/-! ===== every method of the program is checked (printed by wip/whole/pend.py) ===== -/
theorem pk_331 : pk_M 331 = true := by
  unfold pk_M
  rw [List.all_eq_true]
  intro pc hpc
  have h1 : pc < 1855 := by
    have := List.mem_range.mp hpc
    rwa [show (pg_cs.getD 331 []).length = 1855 from by decide +kernel] at this
  rcases (by omega : (0 ≤ pc ∧ pc < 100) ∨ (100 ≤ pc ∧ pc < 200) ∨ (200 ≤ pc ∧ pc < 300) ∨ (300 ≤ pc ∧ pc < 400) ∨ (400 ≤ pc ∧ pc < 500) ∨ (500 ≤ pc ∧ pc < 600) ∨ (600 ≤ pc ∧ pc < 700) ∨ (700 ≤ pc ∧ pc < 800) ∨ (800 ≤ pc ∧ pc < 900) ∨ (900 ≤ pc ∧ pc < 1000) ∨ (1000 ≤ pc ∧ pc < 1100) ∨ (1100 ≤ pc ∧ pc < 1200) ∨ (1200 ≤ pc ∧ pc < 1300) ∨ (1300 ≤ pc ∧ pc < 1400) ∨ (1400 ≤ pc ∧ pc < 1500) ∨ (1500 ≤ pc ∧ pc < 1600) ∨ (1600 ≤ pc ∧ pc < 1700) ∨ (1700 ≤ pc ∧ pc < 1800) ∨ (1800 ≤ pc ∧ pc < 1855)) with h | h | h | h | h | h | h | h | h | h | h | h | h | h | h | h | h | h | h
  · have q := List.all_eq_true.mp pkl_0 (pc - 0) (List.mem_range.mpr (by omega))
    have q2 : pk_1 pg_law (0 + (pc - 0)) = true := q
    rw [show 0 + (pc - 0) = pc by omega] at q2
    exact q2
  · have q := List.all_eq_true.mp pkl_1 (pc - 100) (List.mem_range.mpr (by omega))
    have q2 : pk_1 pg_law (100 + (pc - 100)) = true := q
    rw [show 100 + (pc - 100) = pc by omega] at q2
    exact q2
  · have q := List.all_eq_true.mp pkl_2 (pc - 200) (List.mem_range.mpr (by omega))
    have q2 : pk_1 pg_law (200 + (pc - 200)) = true := q
    rw [show 200 + (pc - 200) = pc by omega] at q2
    exact q2
  · have q := List.all_eq_true.mp pkl_3 (pc - 300) (List.mem_range.mpr (by omega))
    have q2 : pk_1 pg_law (300 + (pc - 300)) = true := q
    rw [show 300 + (pc - 300) = pc by omega] at q2
    exact q2
  · have q := List.all_eq_true.mp pkl_4 (pc - 400) (List.mem_range.mpr (by omega))
    have q2 : pk_1 pg_law (400 + (pc - 400)) = true := q
    rw [show 400 + (pc - 400) = pc by omega] at q2
    exact q2
  · have q := List.all_eq_true.mp pkl_5 (pc - 500) (List.mem_range.mpr (by omega))
    have q2 : pk_1 pg_law (500 + (pc - 500)) = true := q
    rw [show 500 + (pc - 500) = pc by omega] at q2
    exact q2
  · have q := List.all_eq_true.mp pkl_6 (pc - 600) (List.mem_range.mpr (by omega))
    have q2 : pk_1 pg_law (600 + (pc - 600)) = true := q
    rw [show 600 + (pc - 600) = pc by omega] at q2
    exact q2
  · have q := List.all_eq_true.mp pkl_7 (pc - 700) (List.mem_range.mpr (by omega))
    have q2 : pk_1 pg_law (700 + (pc - 700)) = true := q
    rw [show 700 + (pc - 700) = pc by omega] at q2
    exact q2
  · have q := List.all_eq_true.mp pkl_8 (pc - 800) (List.mem_range.mpr (by omega))
    have q2 : pk_1 pg_law (800 + (pc - 800)) = true := q
    rw [show 800 + (pc - 800) = pc by omega] at q2
    exact q2
  · have q := List.all_eq_true.mp pkl_9 (pc - 900) (List.mem_range.mpr (by omega))
    have q2 : pk_1 pg_law (900 + (pc - 900)) = true := q
    rw [show 900 + (pc - 900) = pc by omega] at q2
    exact q2
  · have q := List.all_eq_true.mp pkl_10 (pc - 1000) (List.mem_range.mpr (by omega))
    have q2 : pk_1 pg_law (1000 + (pc - 1000)) = true := q
    rw [show 1000 + (pc - 1000) = pc by omega] at q2
    exact q2
  · have q := List.all_eq_true.mp pkl_11 (pc - 1100) (List.mem_range.mpr (by omega))
    have q2 : pk_1 pg_law (1100 + (pc - 1100)) = true := q
    rw [show 1100 + (pc - 1100) = pc by omega] at q2
    exact q2
  · have q := List.all_eq_true.mp pkl_12 (pc - 1200) (List.mem_range.mpr (by omega))
    have q2 : pk_1 pg_law (1200 + (pc - 1200)) = true := q
    rw [show 1200 + (pc - 1200) = pc by omega] at q2
    exact q2
  · have q := List.all_eq_true.mp pkl_13 (pc - 1300) (List.mem_range.mpr (by omega))
    have q2 : pk_1 pg_law (1300 + (pc - 1300)) = true := q
    rw [show 1300 + (pc - 1300) = pc by omega] at q2
    exact q2
  · have q := List.all_eq_true.mp pkl_14 (pc - 1400) (List.mem_range.mpr (by omega))
    have q2 : pk_1 pg_law (1400 + (pc - 1400)) = true := q
    rw [show 1400 + (pc - 1400) = pc by omega] at q2
    exact q2
  · have q := List.all_eq_true.mp pkl_15 (pc - 1500) (List.mem_range.mpr (by omega))
    have q2 : pk_1 pg_law (1500 + (pc - 1500)) = true := q
    rw [show 1500 + (pc - 1500) = pc by omega] at q2
    exact q2
  · have q := List.all_eq_true.mp pkl_16 (pc - 1600) (List.mem_range.mpr (by omega))
    have q2 : pk_1 pg_law (1600 + (pc - 1600)) = true := q
    rw [show 1600 + (pc - 1600) = pc by omega] at q2
    exact q2
  · have q := List.all_eq_true.mp pkl_17 (pc - 1700) (List.mem_range.mpr (by omega))
    have q2 : pk_1 pg_law (1700 + (pc - 1700)) = true := q
    rw [show 1700 + (pc - 1700) = pc by omega] at q2
    exact q2
  · have q := List.all_eq_true.mp pkl_18 (pc - 1800) (List.mem_range.mpr (by omega))
    have q2 : pk_1 pg_law (1800 + (pc - 1800)) = true := q
    rw [show 1800 + (pc - 1800) = pc by omega] at q2
    exact q2
theorem hk_0 : ∀ M ∈ [0, 1, 2, 3, 4, 5, 6, 7, 8, 9, 10, 11, 12, 13, 14, 15, 16, 17, 18, 19, 20, 21, 22, 23, 24, 25, 26, 27, 28, 29, 30, 31, 32, 33, 34, 35, 36, 37, 38, 39], pk_M M = true :=
  List.forall_mem_cons.mpr ⟨pkc_0, List.forall_mem_cons.mpr ⟨pkc_1, List.forall_mem_cons.mpr ⟨pkc_2, List.forall_mem_cons.mpr ⟨pkc_3, List.forall_mem_cons.mpr ⟨pkc_4, List.forall_mem_cons.mpr ⟨pkc_5, List.forall_mem_cons.mpr ⟨pkc_6, List.forall_mem_cons.mpr ⟨pkc_7, List.forall_mem_cons.mpr ⟨pkc_8, List.forall_mem_cons.mpr ⟨pkc_9, List.forall_mem_cons.mpr ⟨pkc_10, List.forall_mem_cons.mpr ⟨pkc_11, List.forall_mem_cons.mpr ⟨pkc_12, List.forall_mem_cons.mpr ⟨pkc_13, List.forall_mem_cons.mpr ⟨pkc_14, List.forall_mem_cons.mpr ⟨pkc_15, List.forall_mem_cons.mpr ⟨pkc_16, List.forall_mem_cons.mpr ⟨pkc_17, List.forall_mem_cons.mpr ⟨pkc_18, List.forall_mem_cons.mpr ⟨pkc_19, List.forall_mem_cons.mpr ⟨pkc_20, List.forall_mem_cons.mpr ⟨pkc_21, List.forall_mem_cons.mpr ⟨pkc_22, List.forall_mem_cons.mpr ⟨pkc_23, List.forall_mem_cons.mpr ⟨pkc_24, List.forall_mem_cons.mpr ⟨pkc_25, List.forall_mem_cons.mpr ⟨pkc_26, List.forall_mem_cons.mpr ⟨pkc_27, List.forall_mem_cons.mpr ⟨pkc_28, List.forall_mem_cons.mpr ⟨pkc_29, List.forall_mem_cons.mpr ⟨pkc_30, List.forall_mem_cons.mpr ⟨pkc_31, List.forall_mem_cons.mpr ⟨pkc_32, List.forall_mem_cons.mpr ⟨pkc_33, List.forall_mem_cons.mpr ⟨pkc_34, List.forall_mem_cons.mpr ⟨pkc_35, List.forall_mem_cons.mpr ⟨pkc_36, List.forall_mem_cons.mpr ⟨pkc_37, List.forall_mem_cons.mpr ⟨pkc_38, List.forall_mem_cons.mpr ⟨pkc_39, fun _ h => absurd h List.not_mem_nil⟩⟩⟩⟩⟩⟩⟩⟩⟩⟩⟩⟩⟩⟩⟩⟩⟩⟩⟩⟩⟩⟩⟩⟩⟩⟩⟩⟩⟩⟩⟩⟩⟩⟩⟩⟩⟩⟩⟩⟩
theorem hk_1 : ∀ M ∈ [40, 41, 42, 43, 44, 45, 46, 47, 48, 49, 50, 51, 52, 53, 54, 55, 56, 57, 58, 59, 60, 61, 62, 63, 64, 65, 66, 67, 68, 69, 70, 71, 72, 73, 74, 75, 76, 77, 78, 79], pk_M M = true :=
  List.forall_mem_cons.mpr ⟨pkc_40, List.forall_mem_cons.mpr ⟨pkc_41, List.forall_mem_cons.mpr ⟨pkc_42, List.forall_mem_cons.mpr ⟨pkc_43, List.forall_mem_cons.mpr ⟨pkc_44, List.forall_mem_cons.mpr ⟨pkc_45, List.forall_mem_cons.mpr ⟨pkc_46, List.forall_mem_cons.mpr ⟨pkc_47, List.forall_mem_cons.mpr ⟨pkc_48, List.forall_mem_cons.mpr ⟨pkc_49, List.forall_mem_cons.mpr ⟨pkc_50, List.forall_mem_cons.mpr ⟨pkc_51, List.forall_mem_cons.mpr ⟨pkc_52, List.forall_mem_cons.mpr ⟨pkc_53, List.forall_mem_cons.mpr ⟨pkc_54, List.forall_mem_cons.mpr ⟨pkc_55, List.forall_mem_cons.mpr ⟨pkc_56, List.forall_mem_cons.mpr ⟨pkc_57, List.forall_mem_cons.mpr ⟨pkc_58, List.forall_mem_cons.mpr ⟨pkc_59, List.forall_mem_cons.mpr ⟨pkc_60, List.forall_mem_cons.mpr ⟨pkc_61, List.forall_mem_cons.mpr ⟨pkc_62, List.forall_mem_cons.mpr ⟨pkc_63, List.forall_mem_cons.mpr ⟨pkc_64, List.forall_mem_cons.mpr ⟨pkc_65, List.forall_mem_cons.mpr ⟨pkc_66, List.forall_mem_cons.mpr ⟨pkc_67, List.forall_mem_cons.mpr ⟨pkc_68, List.forall_mem_cons.mpr ⟨pkc_69, List.forall_mem_cons.mpr ⟨pkc_70, List.forall_mem_cons.mpr ⟨pkc_71, List.forall_mem_cons.mpr ⟨pkc_72, List.forall_mem_cons.mpr ⟨pkc_73, List.forall_mem_cons.mpr ⟨pkc_74, List.forall_mem_cons.mpr ⟨pkc_75, List.forall_mem_cons.mpr ⟨pkc_76, List.forall_mem_cons.mpr ⟨pkc_77, List.forall_mem_cons.mpr ⟨pkc_78, List.forall_mem_cons.mpr ⟨pkc_79, fun _ h => absurd h List.not_mem_nil⟩⟩⟩⟩⟩⟩⟩⟩⟩⟩⟩⟩⟩⟩⟩⟩⟩⟩⟩⟩⟩⟩⟩⟩⟩⟩⟩⟩⟩⟩⟩⟩⟩⟩⟩⟩⟩⟩⟩⟩
theorem hk_2 : ∀ M ∈ [80, 81, 82, 83, 84, 85, 86, 87, 88, 89, 90, 91, 92, 93, 94, 95, 96, 97, 98, 99, 100, 101, 102, 103, 104, 105, 106, 107, 108, 109, 110, 111, 112, 113, 114, 115, 116, 117, 118, 119], pk_M M = true :=
  List.forall_mem_cons.mpr ⟨pkc_80, List.forall_mem_cons.mpr ⟨pkc_81, List.forall_mem_cons.mpr ⟨pkc_82, List.forall_mem_cons.mpr ⟨pkc_83, List.forall_mem_cons.mpr ⟨pkc_84, List.forall_mem_cons.mpr ⟨pkc_85, List.forall_mem_cons.mpr ⟨pkc_86, List.forall_mem_cons.mpr ⟨pkc_87, List.forall_mem_cons.mpr ⟨pkc_88, List.forall_mem_cons.mpr ⟨pkc_89, List.forall_mem_cons.mpr ⟨pkc_90, List.forall_mem_cons.mpr ⟨pkc_91, List.forall_mem_cons.mpr ⟨pkc_92, List.forall_mem_cons.mpr ⟨pkc_93, List.forall_mem_cons.mpr ⟨pkc_94, List.forall_mem_cons.mpr ⟨pkc_95, List.forall_mem_cons.mpr ⟨pkc_96, List.forall_mem_cons.mpr ⟨pkc_97, List.forall_mem_cons.mpr ⟨pkc_98, List.forall_mem_cons.mpr ⟨pkc_99, List.forall_mem_cons.mpr ⟨pkc_100, List.forall_mem_cons.mpr ⟨pkc_101, List.forall_mem_cons.mpr ⟨pkc_102, List.forall_mem_cons.mpr ⟨pkc_103, List.forall_mem_cons.mpr ⟨pkc_104, List.forall_mem_cons.mpr ⟨pkc_105, List.forall_mem_cons.mpr ⟨pkc_106, List.forall_mem_cons.mpr ⟨pkc_107, List.forall_mem_cons.mpr ⟨pkc_108, List.forall_mem_cons.mpr ⟨pkc_109, List.forall_mem_cons.mpr ⟨pkc_110, List.forall_mem_cons.mpr ⟨pkc_111, List.forall_mem_cons.mpr ⟨pkc_112, List.forall_mem_cons.mpr ⟨pkc_113, List.forall_mem_cons.mpr ⟨pkc_114, List.forall_mem_cons.mpr ⟨pkc_115, List.forall_mem_cons.mpr ⟨pkc_116, List.forall_mem_cons.mpr ⟨pkc_117, List.forall_mem_cons.mpr ⟨pkc_118, List.forall_mem_cons.mpr ⟨pkc_119, fun _ h => absurd h List.not_mem_nil⟩⟩⟩⟩⟩⟩⟩⟩⟩⟩⟩⟩⟩⟩⟩⟩⟩⟩⟩⟩⟩⟩⟩⟩⟩⟩⟩⟩⟩⟩⟩⟩⟩⟩⟩⟩⟩⟩⟩⟩
theorem hk_3 : ∀ M ∈ [120, 121, 122, 123, 124, 125, 126, 127, 128, 129, 130, 131, 132, 133, 134, 135, 136, 137, 138, 139, 140, 141, 142, 143, 144, 145, 146, 147, 148, 149, 150, 151, 152, 153, 154, 155, 156, 157, 158, 159], pk_M M = true :=
  List.forall_mem_cons.mpr ⟨pkc_120, List.forall_mem_cons.mpr ⟨pkc_121, List.forall_mem_cons.mpr ⟨pkc_122, List.forall_mem_cons.mpr ⟨pkc_123, List.forall_mem_cons.mpr ⟨pkc_124, List.forall_mem_cons.mpr ⟨pkc_125, List.forall_mem_cons.mpr ⟨pkc_126, List.forall_mem_cons.mpr ⟨pkc_127, List.forall_mem_cons.mpr ⟨pkc_128, List.forall_mem_cons.mpr ⟨pkc_129, List.forall_mem_cons.mpr ⟨pkc_130, List.forall_mem_cons.mpr ⟨pkc_131, List.forall_mem_cons.mpr ⟨pkc_132, List.forall_mem_cons.mpr ⟨pkc_133, List.forall_mem_cons.mpr ⟨pkc_134, List.forall_mem_cons.mpr ⟨pkc_135, List.forall_mem_cons.mpr ⟨pkc_136, List.forall_mem_cons.mpr ⟨pkc_137, List.forall_mem_cons.mpr ⟨pkc_138, List.forall_mem_cons.mpr ⟨pkc_139, List.forall_mem_cons.mpr ⟨pkc_140, List.forall_mem_cons.mpr ⟨pkc_141, List.forall_mem_cons.mpr ⟨pkc_142, List.forall_mem_cons.mpr ⟨pkc_143, List.forall_mem_cons.mpr ⟨pkc_144, List.forall_mem_cons.mpr ⟨pkc_145, List.forall_mem_cons.mpr ⟨pkc_146, List.forall_mem_cons.mpr ⟨pkc_147, List.forall_mem_cons.mpr ⟨pkc_148, List.forall_mem_cons.mpr ⟨pkc_149, List.forall_mem_cons.mpr ⟨pkc_150, List.forall_mem_cons.mpr ⟨pkc_151, List.forall_mem_cons.mpr ⟨pkc_152, List.forall_mem_cons.mpr ⟨pkc_153, List.forall_mem_cons.mpr ⟨pkc_154, List.forall_mem_cons.mpr ⟨pkc_155, List.forall_mem_cons.mpr ⟨pkc_156, List.forall_mem_cons.mpr ⟨pkc_157, List.forall_mem_cons.mpr ⟨pkc_158, List.forall_mem_cons.mpr ⟨pkc_159, fun _ h => absurd h List.not_mem_nil⟩⟩⟩⟩⟩⟩⟩⟩⟩⟩⟩⟩⟩⟩⟩⟩⟩⟩⟩⟩⟩⟩⟩⟩⟩⟩⟩⟩⟩⟩⟩⟩⟩⟩⟩⟩⟩⟩⟩⟩
theorem hk_4 : ∀ M ∈ [160, 161, 162, 163, 164, 165, 166, 167, 168, 169, 170, 171, 172, 173, 174, 175, 176, 177, 178, 179, 180, 181, 182, 183, 184, 185, 186, 187, 188, 189, 190, 191, 192, 193, 194, 195, 196, 197, 198, 199], pk_M M = true :=
  List.forall_mem_cons.mpr ⟨pkc_160, List.forall_mem_cons.mpr ⟨pkc_161, List.forall_mem_cons.mpr ⟨pkc_162, List.forall_mem_cons.mpr ⟨pkc_163, List.forall_mem_cons.mpr ⟨pkc_164, List.forall_mem_cons.mpr ⟨pkc_165, List.forall_mem_cons.mpr ⟨pkc_166, List.forall_mem_cons.mpr ⟨pkc_167, List.forall_mem_cons.mpr ⟨pkc_168, List.forall_mem_cons.mpr ⟨pkc_169, List.forall_mem_cons.mpr ⟨pkc_170, List.forall_mem_cons.mpr ⟨pkc_171, List.forall_mem_cons.mpr ⟨pkc_172, List.forall_mem_cons.mpr ⟨pkc_173, List.forall_mem_cons.mpr ⟨pkc_174, List.forall_mem_cons.mpr ⟨pkc_175, List.forall_mem_cons.mpr ⟨pkc_176, List.forall_mem_cons.mpr ⟨pkc_177, List.forall_mem_cons.mpr ⟨pkc_178, List.forall_mem_cons.mpr ⟨pkc_179, List.forall_mem_cons.mpr ⟨pkc_180, List.forall_mem_cons.mpr ⟨pkc_181, List.forall_mem_cons.mpr ⟨pkc_182, List.forall_mem_cons.mpr ⟨pkc_183, List.forall_mem_cons.mpr ⟨pkc_184, List.forall_mem_cons.mpr ⟨pkc_185, List.forall_mem_cons.mpr ⟨pkc_186, List.forall_mem_cons.mpr ⟨pkc_187, List.forall_mem_cons.mpr ⟨pkc_188, List.forall_mem_cons.mpr ⟨pkc_189, List.forall_mem_cons.mpr ⟨pkc_190, List.forall_mem_cons.mpr ⟨pkc_191, List.forall_mem_cons.mpr ⟨pkc_192, List.forall_mem_cons.mpr ⟨pkc_193, List.forall_mem_cons.mpr ⟨pkc_194, List.forall_mem_cons.mpr ⟨pkc_195, List.forall_mem_cons.mpr ⟨pkc_196, List.forall_mem_cons.mpr ⟨pkc_197, List.forall_mem_cons.mpr ⟨pkc_198, List.forall_mem_cons.mpr ⟨pkc_199, fun _ h => absurd h List.not_mem_nil⟩⟩⟩⟩⟩⟩⟩⟩⟩⟩⟩⟩⟩⟩⟩⟩⟩⟩⟩⟩⟩⟩⟩⟩⟩⟩⟩⟩⟩⟩⟩⟩⟩⟩⟩⟩⟩⟩⟩⟩
theorem hk_5 : ∀ M ∈ [200, 201, 202, 203, 204, 205, 206, 207, 208, 209, 210, 211, 212, 213, 214, 215, 216, 217, 218, 219, 220, 221, 222, 223, 224, 225, 226, 227, 228, 229, 230, 231, 232, 233, 234, 235, 236, 237, 238, 239], pk_M M = true :=
  List.forall_mem_cons.mpr ⟨pkc_200, List.forall_mem_cons.mpr ⟨pkc_201, List.forall_mem_cons.mpr ⟨pkc_202, List.forall_mem_cons.mpr ⟨pkc_203, List.forall_mem_cons.mpr ⟨pkc_204, List.forall_mem_cons.mpr ⟨pkc_205, List.forall_mem_cons.mpr ⟨pkc_206, List.forall_mem_cons.mpr ⟨pkc_207, List.forall_mem_cons.mpr ⟨pkc_208, List.forall_mem_cons.mpr ⟨pkc_209, List.forall_mem_cons.mpr ⟨pkc_210, List.forall_mem_cons.mpr ⟨pkc_211, List.forall_mem_cons.mpr ⟨pkc_212, List.forall_mem_cons.mpr ⟨pkc_213, List.forall_mem_cons.mpr ⟨pkc_214, List.forall_mem_cons.mpr ⟨pkc_215, List.forall_mem_cons.mpr ⟨pkc_216, List.forall_mem_cons.mpr ⟨pkc_217, List.forall_mem_cons.mpr ⟨pkc_218, List.forall_mem_cons.mpr ⟨pkc_219, List.forall_mem_cons.mpr ⟨pkc_220, List.forall_mem_cons.mpr ⟨pkc_221, List.forall_mem_cons.mpr ⟨pkc_222, List.forall_mem_cons.mpr ⟨pkc_223, List.forall_mem_cons.mpr ⟨pkc_224, List.forall_mem_cons.mpr ⟨pkc_225, List.forall_mem_cons.mpr ⟨pkc_226, List.forall_mem_cons.mpr ⟨pkc_227, List.forall_mem_cons.mpr ⟨pkc_228, List.forall_mem_cons.mpr ⟨pkc_229, List.forall_mem_cons.mpr ⟨pkc_230, List.forall_mem_cons.mpr ⟨pkc_231, List.forall_mem_cons.mpr ⟨pkc_232, List.forall_mem_cons.mpr ⟨pkc_233, List.forall_mem_cons.mpr ⟨pkc_234, List.forall_mem_cons.mpr ⟨pkc_235, List.forall_mem_cons.mpr ⟨pkc_236, List.forall_mem_cons.mpr ⟨pkc_237, List.forall_mem_cons.mpr ⟨pkc_238, List.forall_mem_cons.mpr ⟨pkc_239, fun _ h => absurd h List.not_mem_nil⟩⟩⟩⟩⟩⟩⟩⟩⟩⟩⟩⟩⟩⟩⟩⟩⟩⟩⟩⟩⟩⟩⟩⟩⟩⟩⟩⟩⟩⟩⟩⟩⟩⟩⟩⟩⟩⟩⟩⟩
theorem hk_6 : ∀ M ∈ [240, 241, 242, 243, 244, 245, 246, 247, 248, 249, 250, 251, 252, 253, 254, 255, 256, 257, 258, 259, 260, 261, 262, 263, 264, 265, 266, 267, 268, 269, 270, 271, 272, 273, 274, 275, 276, 277, 278, 279], pk_M M = true :=
  List.forall_mem_cons.mpr ⟨pkc_240, List.forall_mem_cons.mpr ⟨pkc_241, List.forall_mem_cons.mpr ⟨pkc_242, List.forall_mem_cons.mpr ⟨pkc_243, List.forall_mem_cons.mpr ⟨pkc_244, List.forall_mem_cons.mpr ⟨pkc_245, List.forall_mem_cons.mpr ⟨pkc_246, List.forall_mem_cons.mpr ⟨pkc_247, List.forall_mem_cons.mpr ⟨pkc_248, List.forall_mem_cons.mpr ⟨pkc_249, List.forall_mem_cons.mpr ⟨pkc_250, List.forall_mem_cons.mpr ⟨pkc_251, List.forall_mem_cons.mpr ⟨pkc_252, List.forall_mem_cons.mpr ⟨pkc_253, List.forall_mem_cons.mpr ⟨pkc_254, List.forall_mem_cons.mpr ⟨pkc_255, List.forall_mem_cons.mpr ⟨pkc_256, List.forall_mem_cons.mpr ⟨pkc_257, List.forall_mem_cons.mpr ⟨pkc_258, List.forall_mem_cons.mpr ⟨pkc_259, List.forall_mem_cons.mpr ⟨pkc_260, List.forall_mem_cons.mpr ⟨pkc_261, List.forall_mem_cons.mpr ⟨pkc_262, List.forall_mem_cons.mpr ⟨pkc_263, List.forall_mem_cons.mpr ⟨pkc_264, List.forall_mem_cons.mpr ⟨pkc_265, List.forall_mem_cons.mpr ⟨pkc_266, List.forall_mem_cons.mpr ⟨pkc_267, List.forall_mem_cons.mpr ⟨pkc_268, List.forall_mem_cons.mpr ⟨pkc_269, List.forall_mem_cons.mpr ⟨pkc_270, List.forall_mem_cons.mpr ⟨pkc_271, List.forall_mem_cons.mpr ⟨pkc_272, List.forall_mem_cons.mpr ⟨pkc_273, List.forall_mem_cons.mpr ⟨pkc_274, List.forall_mem_cons.mpr ⟨pkc_275, List.forall_mem_cons.mpr ⟨pkc_276, List.forall_mem_cons.mpr ⟨pkc_277, List.forall_mem_cons.mpr ⟨pkc_278, List.forall_mem_cons.mpr ⟨pkc_279, fun _ h => absurd h List.not_mem_nil⟩⟩⟩⟩⟩⟩⟩⟩⟩⟩⟩⟩⟩⟩⟩⟩⟩⟩⟩⟩⟩⟩⟩⟩⟩⟩⟩⟩⟩⟩⟩⟩⟩⟩⟩⟩⟩⟩⟩⟩
theorem hk_7 : ∀ M ∈ [280, 281, 282, 283, 284, 285, 286, 287, 288, 289, 290, 291, 292, 293, 294, 295, 296, 297, 298, 299, 300, 301, 302, 303, 304, 305, 306, 307, 308, 309, 310, 311, 312, 313, 314, 315, 316, 317, 318, 319], pk_M M = true :=
  List.forall_mem_cons.mpr ⟨pkc_280, List.forall_mem_cons.mpr ⟨pkc_281, List.forall_mem_cons.mpr ⟨pkc_282, List.forall_mem_cons.mpr ⟨pkc_283, List.forall_mem_cons.mpr ⟨pkc_284, List.forall_mem_cons.mpr ⟨pkc_285, List.forall_mem_cons.mpr ⟨pkc_286, List.forall_mem_cons.mpr ⟨pkc_287, List.forall_mem_cons.mpr ⟨pkc_288, List.forall_mem_cons.mpr ⟨pkc_289, List.forall_mem_cons.mpr ⟨pkc_290, List.forall_mem_cons.mpr ⟨pkc_291, List.forall_mem_cons.mpr ⟨pkc_292, List.forall_mem_cons.mpr ⟨pkc_293, List.forall_mem_cons.mpr ⟨pkc_294, List.forall_mem_cons.mpr ⟨pkc_295, List.forall_mem_cons.mpr ⟨pkc_296, List.forall_mem_cons.mpr ⟨pkc_297, List.forall_mem_cons.mpr ⟨pkc_298, List.forall_mem_cons.mpr ⟨pkc_299, List.forall_mem_cons.mpr ⟨pkc_300, List.forall_mem_cons.mpr ⟨pkc_301, List.forall_mem_cons.mpr ⟨pkc_302, List.forall_mem_cons.mpr ⟨pkc_303, List.forall_mem_cons.mpr ⟨pkc_304, List.forall_mem_cons.mpr ⟨pkc_305, List.forall_mem_cons.mpr ⟨pkc_306, List.forall_mem_cons.mpr ⟨pkc_307, List.forall_mem_cons.mpr ⟨pkc_308, List.forall_mem_cons.mpr ⟨pkc_309, List.forall_mem_cons.mpr ⟨pkc_310, List.forall_mem_cons.mpr ⟨pkc_311, List.forall_mem_cons.mpr ⟨pkc_312, List.forall_mem_cons.mpr ⟨pkc_313, List.forall_mem_cons.mpr ⟨pkc_314, List.forall_mem_cons.mpr ⟨pkc_315, List.forall_mem_cons.mpr ⟨pkc_316, List.forall_mem_cons.mpr ⟨pkc_317, List.forall_mem_cons.mpr ⟨pkc_318, List.forall_mem_cons.mpr ⟨pkc_319, fun _ h => absurd h List.not_mem_nil⟩⟩⟩⟩⟩⟩⟩⟩⟩⟩⟩⟩⟩⟩⟩⟩⟩⟩⟩⟩⟩⟩⟩⟩⟩⟩⟩⟩⟩⟩⟩⟩⟩⟩⟩⟩⟩⟩⟩⟩
theorem hk_8 : ∀ M ∈ [320, 321, 322, 323, 324, 325, 326, 327, 328, 329, 330, 331], pk_M M = true :=
  List.forall_mem_cons.mpr ⟨pkc_320, List.forall_mem_cons.mpr ⟨pkc_321, List.forall_mem_cons.mpr ⟨pkc_322, List.forall_mem_cons.mpr ⟨pkc_323, List.forall_mem_cons.mpr ⟨pkc_324, List.forall_mem_cons.mpr ⟨pkc_325, List.forall_mem_cons.mpr ⟨pkc_326, List.forall_mem_cons.mpr ⟨pkc_327, List.forall_mem_cons.mpr ⟨pkc_328, List.forall_mem_cons.mpr ⟨pkc_329, List.forall_mem_cons.mpr ⟨pkc_330, List.forall_mem_cons.mpr ⟨pk_331, fun _ h => absurd h List.not_mem_nil⟩⟩⟩⟩⟩⟩⟩⟩⟩⟩⟩⟩
theorem hk_in : ∀ M, M < 332 → M ∈ [0, 1, 2, 3, 4, 5, 6, 7, 8, 9, 10, 11, 12, 13, 14, 15, 16, 17, 18, 19, 20, 21, 22, 23, 24, 25, 26, 27, 28, 29, 30, 31, 32, 33, 34, 35, 36, 37, 38, 39] ∨ M ∈ [40, 41, 42, 43, 44, 45, 46, 47, 48, 49, 50, 51, 52, 53, 54, 55, 56, 57, 58, 59, 60, 61, 62, 63, 64, 65, 66, 67, 68, 69, 70, 71, 72, 73, 74, 75, 76, 77, 78, 79] ∨ M ∈ [80, 81, 82, 83, 84, 85, 86, 87, 88, 89, 90, 91, 92, 93, 94, 95, 96, 97, 98, 99, 100, 101, 102, 103, 104, 105, 106, 107, 108, 109, 110, 111, 112, 113, 114, 115, 116, 117, 118, 119] ∨ M ∈ [120, 121, 122, 123, 124, 125, 126, 127, 128, 129, 130, 131, 132, 133, 134, 135, 136, 137, 138, 139, 140, 141, 142, 143, 144, 145, 146, 147, 148, 149, 150, 151, 152, 153, 154, 155, 156, 157, 158, 159] ∨ M ∈ [160, 161, 162, 163, 164, 165, 166, 167, 168, 169, 170, 171, 172, 173, 174, 175, 176, 177, 178, 179, 180, 181, 182, 183, 184, 185, 186, 187, 188, 189, 190, 191, 192, 193, 194, 195, 196, 197, 198, 199] ∨ M ∈ [200, 201, 202, 203, 204, 205, 206, 207, 208, 209, 210, 211, 212, 213, 214, 215, 216, 217, 218, 219, 220, 221, 222, 223, 224, 225, 226, 227, 228, 229, 230, 231, 232, 233, 234, 235, 236, 237, 238, 239] ∨ M ∈ [240, 241, 242, 243, 244, 245, 246, 247, 248, 249, 250, 251, 252, 253, 254, 255, 256, 257, 258, 259, 260, 261, 262, 263, 264, 265, 266, 267, 268, 269, 270, 271, 272, 273, 274, 275, 276, 277, 278, 279] ∨ M ∈ [280, 281, 282, 283, 284, 285, 286, 287, 288, 289, 290, 291, 292, 293, 294, 295, 296, 297, 298, 299, 300, 301, 302, 303, 304, 305, 306, 307, 308, 309, 310, 311, 312, 313, 314, 315, 316, 317, 318, 319] ∨ M ∈ [320, 321, 322, 323, 324, 325, 326, 327, 328, 329, 330, 331] := by decide +kernel
theorem hk_all : ∀ M, M < 332 → pk_M M = true := by
  intro M hM
  rcases hk_in M hM with h | h | h | h | h | h | h | h | h
  · exact hk_0 M h
  · exact hk_1 M h
  · exact hk_2 M h
  · exact hk_3 M h
  · exact hk_4 M h
  · exact hk_5 M h
  · exact hk_6 M h
  · exact hk_7 M h
  · exact hk_8 M h
