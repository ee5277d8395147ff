/-! ===== the class reads behind a fault (segments printed by wip/whole, contracts own work) ===== -/
-- method 50: MillTown$Reader.readSum(LMillTown$Text;I)V
theorem c_50_0 : pg_cd 50 0 = (1, 1, 0, 0, 0) := by decide +kernel
theorem c_50_1 : pg_cd 50 1 = (6, 1, 0, 3, 0) := by decide +kernel
theorem c_50_2 : pg_cd 50 2 = (1, 1, 0, 0, 0) := by decide +kernel
theorem c_50_3 : pg_cd 50 3 = (6, 2, 0, 4, 0) := by decide +kernel
theorem c_50_5 : pg_cd 50 5 = (3, 2, 0, 4, 0) := by decide +kernel
theorem c_50_7 : pg_cd 50 7 = (5, 1, 0, 0, 0) := by decide +kernel
theorem c_50_8 : pg_cd 50 8 = (45, 3, 9, 0, 0) := by decide +kernel
theorem c_50_11 : pg_cd 50 11 = (58, 0, 0, 0, 0) := by decide +kernel
theorem c_50_12 : pg_cd 50 12 = (37, 3, 0, 3, 124) := by decide +kernel
theorem c_50_15 : pg_cd 50 15 = (5, 1, 0, 0, 0) := by decide +kernel
theorem c_50_16 : pg_cd 50 16 = (43, 3, 21, 5, 0) := by decide +kernel
theorem c_50_19 : pg_cd 50 19 = (36, 3, 0, 1, 117) := by decide +kernel
theorem c_50_22 : pg_cd 50 22 = (5, 1, 0, 0, 0) := by decide +kernel
theorem c_50_23 : pg_cd 50 23 = (5, 1, 0, 1, 0) := by decide +kernel
theorem c_50_24 : pg_cd 50 24 = (3, 1, 0, 2, 0) := by decide +kernel
theorem c_50_25 : pg_cd 50 25 = (80, 51, 131, 0, 0) := by decide +kernel
theorem c_50_28 : pg_cd 50 28 = (1, 1, 0, 0, 0) := by decide +kernel
theorem c_50_29 : pg_cd 50 29 = (6, 2, 0, 5, 0) := by decide +kernel
theorem c_50_31 : pg_cd 50 31 = (3, 2, 0, 5, 0) := by decide +kernel
theorem c_50_33 : pg_cd 50 33 = (5, 1, 0, 0, 0) := by decide +kernel
theorem c_50_34 : pg_cd 50 34 = (45, 3, 9, 0, 0) := by decide +kernel
theorem c_50_37 : pg_cd 50 37 = (58, 0, 0, 0, 0) := by decide +kernel
theorem c_50_38 : pg_cd 50 38 = (37, 3, 0, 3, 59) := by decide +kernel
theorem c_50_41 : pg_cd 50 41 = (5, 1, 0, 0, 0) := by decide +kernel
theorem c_50_42 : pg_cd 50 42 = (43, 3, 21, 5, 0) := by decide +kernel
theorem c_50_45 : pg_cd 50 45 = (36, 3, 0, 1, 52) := by decide +kernel
theorem c_50_48 : pg_cd 50 48 = (5, 1, 0, 0, 0) := by decide +kernel
theorem c_50_49 : pg_cd 50 49 = (43, 3, 46, 4, 0) := by decide +kernel
theorem c_50_52 : pg_cd 50 52 = (1, 2, 0, 0, 31) := by decide +kernel
theorem c_50_54 : pg_cd 50 54 = (37, 3, 0, 0, 12) := by decide +kernel
theorem c_50_57 : pg_cd 50 57 = (5, 1, 0, 0, 0) := by decide +kernel
theorem c_50_58 : pg_cd 50 58 = (43, 3, 46, 4, 0) := by decide +kernel
theorem c_50_61 : pg_cd 50 61 = (1, 2, 0, 0, 32) := by decide +kernel
theorem c_50_63 : pg_cd 50 63 = (37, 3, 0, 1, 34) := by decide +kernel
theorem c_50_66 : pg_cd 50 66 = (5, 1, 0, 0, 0) := by decide +kernel
theorem c_50_67 : pg_cd 50 67 = (43, 3, 46, 4, 0) := by decide +kernel
theorem c_50_70 : pg_cd 50 70 = (6, 2, 0, 6, 0) := by decide +kernel
theorem c_50_72 : pg_cd 50 72 = (5, 1, 0, 0, 0) := by decide +kernel
theorem c_50_73 : pg_cd 50 73 = (3, 2, 0, 6, 0) := by decide +kernel
theorem c_50_75 : pg_cd 50 75 = (80, 44, 101, 0, 0) := by decide +kernel
theorem c_50_78 : pg_cd 50 78 = (5, 1, 0, 0, 0) := by decide +kernel
theorem c_50_79 : pg_cd 50 79 = (5, 1, 0, 1, 0) := by decide +kernel
theorem c_50_80 : pg_cd 50 80 = (3, 1, 0, 2, 0) := by decide +kernel
theorem c_50_81 : pg_cd 50 81 = (80, 51, 131, 0, 0) := by decide +kernel
theorem c_50_84 : pg_cd 50 84 = (5, 1, 0, 1, 0) := by decide +kernel
theorem c_50_85 : pg_cd 50 85 = (3, 2, 0, 6, 0) := by decide +kernel
theorem c_50_87 : pg_cd 50 87 = (1, 1, 0, 0, 0) := by decide +kernel
theorem c_50_88 : pg_cd 50 88 = (80, 84, 127, 0, 0) := by decide +kernel
theorem c_50_91 : pg_cd 50 91 = (9, 3, 0, 5, 1) := by decide +kernel
theorem c_50_94 : pg_cd 50 94 = (38, 3, 0, 0, (-63)) := by decide +kernel
theorem c_50_97 : pg_cd 50 97 = (3, 1, 0, 3, 0) := by decide +kernel
theorem c_50_98 : pg_cd 50 98 = (36, 3, 0, 0, 9) := by decide +kernel
theorem c_50_101 : pg_cd 50 101 = (5, 1, 0, 1, 0) := by decide +kernel
theorem c_50_102 : pg_cd 50 102 = (3, 1, 0, 3, 0) := by decide +kernel
theorem c_50_103 : pg_cd 50 103 = (1, 1, 0, 0, 0) := by decide +kernel
theorem c_50_104 : pg_cd 50 104 = (80, 84, 127, 0, 0) := by decide +kernel
theorem c_50_107 : pg_cd 50 107 = (5, 1, 0, 0, 0) := by decide +kernel
theorem c_50_108 : pg_cd 50 108 = (43, 3, 46, 4, 0) := by decide +kernel
theorem c_50_111 : pg_cd 50 111 = (6, 1, 0, 3, 0) := by decide +kernel
theorem c_50_112 : pg_cd 50 112 = (3, 1, 0, 3, 0) := by decide +kernel
theorem c_50_113 : pg_cd 50 113 = (1, 2, 0, 0, 29) := by decide +kernel
theorem c_50_115 : pg_cd 50 115 = (37, 3, 0, 0, 10) := by decide +kernel
theorem c_50_118 : pg_cd 50 118 = (3, 1, 0, 3, 0) := by decide +kernel
theorem c_50_119 : pg_cd 50 119 = (1, 2, 0, 0, 30) := by decide +kernel
theorem c_50_121 : pg_cd 50 121 = (37, 3, 0, 0, 4) := by decide +kernel
theorem c_50_124 : pg_cd 50 124 = (94, 0, 0, 0, 0) := by decide +kernel
theorem c_50_125 : pg_cd 50 125 = (5, 1, 0, 0, 0) := by decide +kernel
theorem c_50_126 : pg_cd 50 126 = (3, 1, 0, 3, 0) := by decide +kernel
theorem c_50_127 : pg_cd 50 127 = (80, 44, 101, 0, 0) := by decide +kernel
theorem c_50_130 : pg_cd 50 130 = (9, 3, 0, 4, 1) := by decide +kernel
theorem c_50_133 : pg_cd 50 133 = (38, 3, 0, 0, (-128)) := by decide +kernel
theorem c_50_136 : pg_cd 50 136 = (94, 0, 0, 0, 0) := by decide +kernel
theorem mi_50 : pg_mc 50 = 3 ∧ pg_na 50 = 2 ∧ pg_mx 50 = 7 := by decide +kernel
-- method 51: MillTown$Reader.readOne(LMillTown$Text;I)V
theorem c_51_0 : pg_cd 51 0 = (5, 1, 0, 0, 0) := by decide +kernel
theorem c_51_1 : pg_cd 51 1 = (43, 3, 46, 4, 0) := by decide +kernel
theorem c_51_4 : pg_cd 51 4 = (6, 1, 0, 3, 0) := by decide +kernel
theorem c_51_5 : pg_cd 51 5 = (3, 1, 0, 3, 0) := by decide +kernel
theorem c_51_6 : pg_cd 51 6 = (1, 2, 0, 0, 21) := by decide +kernel
theorem c_51_8 : pg_cd 51 8 = (37, 3, 0, 0, 9) := by decide +kernel
theorem c_51_11 : pg_cd 51 11 = (3, 1, 0, 3, 0) := by decide +kernel
theorem c_51_12 : pg_cd 51 12 = (1, 2, 0, 0, 22) := by decide +kernel
theorem c_51_14 : pg_cd 51 14 = (37, 3, 0, 1, 7) := by decide +kernel
theorem c_51_17 : pg_cd 51 17 = (1, 1, 0, 0, 1) := by decide +kernel
theorem c_51_18 : pg_cd 51 18 = (38, 3, 0, 0, 4) := by decide +kernel
theorem c_51_21 : pg_cd 51 21 = (1, 1, 0, 0, 0) := by decide +kernel
theorem c_51_22 : pg_cd 51 22 = (6, 2, 0, 4, 0) := by decide +kernel
theorem c_51_24 : pg_cd 51 24 = (3, 1, 0, 3, 0) := by decide +kernel
theorem c_51_25 : pg_cd 51 25 = (1, 1, 0, 0, 2) := by decide +kernel
theorem c_51_26 : pg_cd 51 26 = (37, 3, 0, 1, 59) := by decide +kernel
theorem c_51_29 : pg_cd 51 29 = (5, 1, 0, 0, 0) := by decide +kernel
theorem c_51_30 : pg_cd 51 30 = (43, 3, 43, 3, 0) := by decide +kernel
theorem c_51_33 : pg_cd 51 33 = (5, 1, 0, 0, 0) := by decide +kernel
theorem c_51_34 : pg_cd 51 34 = (45, 3, 18, 2, 0) := by decide +kernel
theorem c_51_37 : pg_cd 51 37 = (58, 0, 0, 0, 0) := by decide +kernel
theorem c_51_38 : pg_cd 51 38 = (37, 3, 0, 3, 47) := by decide +kernel
theorem c_51_41 : pg_cd 51 41 = (5, 1, 0, 0, 0) := by decide +kernel
theorem c_51_42 : pg_cd 51 42 = (45, 3, 18, 2, 0) := by decide +kernel
theorem c_51_45 : pg_cd 51 45 = (5, 1, 0, 0, 0) := by decide +kernel
theorem c_51_46 : pg_cd 51 46 = (43, 3, 43, 3, 0) := by decide +kernel
theorem c_51_49 : pg_cd 51 49 = (50, 1, 0, 0, 0) := by decide +kernel
theorem c_51_50 : pg_cd 51 50 = (1, 3, 0, 0, 9999) := by decide +kernel
theorem c_51_53 : pg_cd 51 53 = (37, 3, 0, 5, 8) := by decide +kernel
theorem c_51_56 : pg_cd 51 56 = (5, 1, 0, 0, 0) := by decide +kernel
theorem c_51_57 : pg_cd 51 57 = (1, 1, 0, 0, 2) := by decide +kernel
theorem c_51_58 : pg_cd 51 58 = (80, 43, 49, 0, 0) := by decide +kernel
theorem c_51_61 : pg_cd 51 61 = (5, 1, 0, 1, 0) := by decide +kernel
theorem c_51_62 : pg_cd 51 62 = (1, 1, 0, 0, 2) := by decide +kernel
theorem c_51_63 : pg_cd 51 63 = (5, 1, 0, 0, 0) := by decide +kernel
theorem c_51_64 : pg_cd 51 64 = (45, 3, 18, 2, 0) := by decide +kernel
theorem c_51_67 : pg_cd 51 67 = (5, 1, 0, 0, 0) := by decide +kernel
theorem c_51_68 : pg_cd 51 68 = (43, 3, 43, 3, 0) := by decide +kernel
theorem c_51_71 : pg_cd 51 71 = (50, 1, 0, 0, 0) := by decide +kernel
theorem c_51_72 : pg_cd 51 72 = (1, 3, 0, 0, 10000) := by decide +kernel
theorem c_51_75 : pg_cd 51 75 = (17, 1, 0, 0, 0) := by decide +kernel
theorem c_51_76 : pg_cd 51 76 = (80, 84, 127, 0, 0) := by decide +kernel
theorem c_51_79 : pg_cd 51 79 = (5, 1, 0, 0, 0) := by decide +kernel
theorem c_51_80 : pg_cd 51 80 = (1, 1, 0, 0, 2) := by decide +kernel
theorem c_51_81 : pg_cd 51 81 = (80, 44, 101, 0, 0) := by decide +kernel
theorem c_51_84 : pg_cd 51 84 = (94, 0, 0, 0, 0) := by decide +kernel
theorem c_51_85 : pg_cd 51 85 = (3, 1, 0, 3, 0) := by decide +kernel
theorem c_51_86 : pg_cd 51 86 = (1, 2, 0, 0, 17) := by decide +kernel
theorem c_51_88 : pg_cd 51 88 = (37, 3, 0, 2, 21) := by decide +kernel
theorem c_51_91 : pg_cd 51 91 = (3, 1, 0, 3, 0) := by decide +kernel
theorem c_51_92 : pg_cd 51 92 = (1, 2, 0, 0, 20) := by decide +kernel
theorem c_51_94 : pg_cd 51 94 = (37, 3, 0, 4, 15) := by decide +kernel
theorem c_51_97 : pg_cd 51 97 = (5, 1, 0, 1, 0) := by decide +kernel
theorem c_51_98 : pg_cd 51 98 = (3, 1, 0, 3, 0) := by decide +kernel
theorem c_51_99 : pg_cd 51 99 = (1, 1, 0, 0, 0) := by decide +kernel
theorem c_51_100 : pg_cd 51 100 = (80, 84, 127, 0, 0) := by decide +kernel
theorem c_51_103 : pg_cd 51 103 = (5, 1, 0, 0, 0) := by decide +kernel
theorem c_51_104 : pg_cd 51 104 = (3, 1, 0, 3, 0) := by decide +kernel
theorem c_51_105 : pg_cd 51 105 = (80, 44, 101, 0, 0) := by decide +kernel
theorem c_51_108 : pg_cd 51 108 = (94, 0, 0, 0, 0) := by decide +kernel
theorem c_51_109 : pg_cd 51 109 = (3, 2, 0, 4, 0) := by decide +kernel
theorem c_51_111 : pg_cd 51 111 = (36, 3, 0, 0, 8) := by decide +kernel
theorem c_51_114 : pg_cd 51 114 = (5, 1, 0, 0, 0) := by decide +kernel
theorem c_51_115 : pg_cd 51 115 = (3, 1, 0, 3, 0) := by decide +kernel
theorem c_51_116 : pg_cd 51 116 = (80, 44, 101, 0, 0) := by decide +kernel
theorem c_51_119 : pg_cd 51 119 = (5, 1, 0, 0, 0) := by decide +kernel
theorem c_51_120 : pg_cd 51 120 = (43, 3, 46, 4, 0) := by decide +kernel
theorem c_51_123 : pg_cd 51 123 = (1, 2, 0, 0, 33) := by decide +kernel
theorem c_51_125 : pg_cd 51 125 = (37, 3, 0, 0, 25) := by decide +kernel
theorem c_51_128 : pg_cd 51 128 = (3, 2, 0, 4, 0) := by decide +kernel
theorem c_51_130 : pg_cd 51 130 = (36, 3, 0, 1, 12) := by decide +kernel
theorem c_51_133 : pg_cd 51 133 = (5, 1, 0, 0, 0) := by decide +kernel
theorem c_51_134 : pg_cd 51 134 = (43, 3, 46, 4, 0) := by decide +kernel
theorem c_51_137 : pg_cd 51 137 = (1, 2, 0, 0, 30) := by decide +kernel
theorem c_51_139 : pg_cd 51 139 = (37, 3, 0, 0, 11) := by decide +kernel
theorem c_51_142 : pg_cd 51 142 = (5, 1, 0, 0, 0) := by decide +kernel
theorem c_51_143 : pg_cd 51 143 = (1, 1, 0, 0, 1) := by decide +kernel
theorem c_51_144 : pg_cd 51 144 = (80, 43, 49, 0, 0) := by decide +kernel
theorem c_51_147 : pg_cd 51 147 = (38, 3, 0, 0, 95) := by decide +kernel
theorem c_51_150 : pg_cd 51 150 = (3, 1, 0, 2, 0) := by decide +kernel
theorem c_51_151 : pg_cd 51 151 = (1, 2, 0, 0, 8) := by decide +kernel
theorem c_51_153 : pg_cd 51 153 = (37, 3, 0, 2, 11) := by decide +kernel
theorem c_51_156 : pg_cd 51 156 = (5, 1, 0, 0, 0) := by decide +kernel
theorem c_51_157 : pg_cd 51 157 = (1, 1, 0, 0, 3) := by decide +kernel
theorem c_51_158 : pg_cd 51 158 = (80, 43, 49, 0, 0) := by decide +kernel
theorem c_51_161 : pg_cd 51 161 = (38, 3, 0, 0, 81) := by decide +kernel
theorem c_51_164 : pg_cd 51 164 = (5, 1, 0, 0, 0) := by decide +kernel
theorem c_51_165 : pg_cd 51 165 = (43, 3, 46, 4, 0) := by decide +kernel
theorem c_51_168 : pg_cd 51 168 = (1, 2, 0, 0, 30) := by decide +kernel
theorem c_51_170 : pg_cd 51 170 = (37, 3, 0, 1, 27) := by decide +kernel
theorem c_51_173 : pg_cd 51 173 = (5, 1, 0, 0, 0) := by decide +kernel
theorem c_51_174 : pg_cd 51 174 = (1, 2, 0, 0, 30) := by decide +kernel
theorem c_51_176 : pg_cd 51 176 = (80, 44, 101, 0, 0) := by decide +kernel
theorem c_51_179 : pg_cd 51 179 = (5, 1, 0, 0, 0) := by decide +kernel
theorem c_51_180 : pg_cd 51 180 = (5, 1, 0, 1, 0) := by decide +kernel
theorem c_51_181 : pg_cd 51 181 = (3, 1, 0, 2, 0) := by decide +kernel
theorem c_51_182 : pg_cd 51 182 = (1, 1, 0, 0, 1) := by decide +kernel
theorem c_51_183 : pg_cd 51 183 = (10, 1, 0, 0, 0) := by decide +kernel
theorem c_51_184 : pg_cd 51 184 = (80, 51, 131, 0, 0) := by decide +kernel
theorem c_51_187 : pg_cd 51 187 = (5, 1, 0, 1, 0) := by decide +kernel
theorem c_51_188 : pg_cd 51 188 = (1, 2, 0, 0, 37) := by decide +kernel
theorem c_51_190 : pg_cd 51 190 = (1, 1, 0, 0, 0) := by decide +kernel
theorem c_51_191 : pg_cd 51 191 = (80, 84, 127, 0, 0) := by decide +kernel
theorem c_51_194 : pg_cd 51 194 = (38, 3, 0, 0, 48) := by decide +kernel
theorem c_51_197 : pg_cd 51 197 = (5, 1, 0, 0, 0) := by decide +kernel
theorem c_51_198 : pg_cd 51 198 = (1, 2, 0, 0, 33) := by decide +kernel
theorem c_51_200 : pg_cd 51 200 = (80, 44, 101, 0, 0) := by decide +kernel
theorem c_51_203 : pg_cd 51 203 = (5, 1, 0, 0, 0) := by decide +kernel
theorem c_51_204 : pg_cd 51 204 = (5, 1, 0, 1, 0) := by decide +kernel
theorem c_51_205 : pg_cd 51 205 = (3, 1, 0, 2, 0) := by decide +kernel
theorem c_51_206 : pg_cd 51 206 = (1, 1, 0, 0, 1) := by decide +kernel
theorem c_51_207 : pg_cd 51 207 = (10, 1, 0, 0, 0) := by decide +kernel
theorem c_51_208 : pg_cd 51 208 = (80, 50, 120, 0, 0) := by decide +kernel
theorem c_51_211 : pg_cd 51 211 = (3, 2, 0, 4, 0) := by decide +kernel
theorem c_51_213 : pg_cd 51 213 = (36, 3, 0, 0, 23) := by decide +kernel
theorem c_51_216 : pg_cd 51 216 = (5, 1, 0, 0, 0) := by decide +kernel
theorem c_51_217 : pg_cd 51 217 = (1, 2, 0, 0, 35) := by decide +kernel
theorem c_51_219 : pg_cd 51 219 = (80, 44, 101, 0, 0) := by decide +kernel
theorem c_51_222 : pg_cd 51 222 = (5, 1, 0, 0, 0) := by decide +kernel
theorem c_51_223 : pg_cd 51 223 = (5, 1, 0, 1, 0) := by decide +kernel
theorem c_51_224 : pg_cd 51 224 = (3, 1, 0, 2, 0) := by decide +kernel
theorem c_51_225 : pg_cd 51 225 = (1, 1, 0, 0, 1) := by decide +kernel
theorem c_51_226 : pg_cd 51 226 = (10, 1, 0, 0, 0) := by decide +kernel
theorem c_51_227 : pg_cd 51 227 = (80, 50, 120, 0, 0) := by decide +kernel
theorem c_51_230 : pg_cd 51 230 = (5, 1, 0, 1, 0) := by decide +kernel
theorem c_51_231 : pg_cd 51 231 = (3, 1, 0, 3, 0) := by decide +kernel
theorem c_51_232 : pg_cd 51 232 = (1, 1, 0, 0, 0) := by decide +kernel
theorem c_51_233 : pg_cd 51 233 = (80, 84, 127, 0, 0) := by decide +kernel
theorem c_51_236 : pg_cd 51 236 = (5, 1, 0, 0, 0) := by decide +kernel
theorem c_51_237 : pg_cd 51 237 = (1, 2, 0, 0, 34) := by decide +kernel
theorem c_51_239 : pg_cd 51 239 = (80, 44, 101, 0, 0) := by decide +kernel
theorem c_51_242 : pg_cd 51 242 = (94, 0, 0, 0, 0) := by decide +kernel
theorem mi_51 : pg_mc 51 = 3 ∧ pg_na 51 = 2 ∧ pg_mx 51 = 5 := by decide +kernel
set_option maxRecDepth 20000 in
theorem u_50_0 {d : Nat} {S : zS} {σ τ : zI} {Q : zQ} {x1 : Nat} {x2 : Int} (hx1 : oT S x1) (t : wi (d + 8) 50 5 [.ref 63, .ref x1, .int (wI x2), .int (wI 0), .int (wI 0), .retAddr 0, .retAddr 0] [] S σ τ Q) : wi (d + 8) 50 0 [.ref 63, .ref x1, .int (wI x2), .retAddr 0, .retAddr 0, .retAddr 0, .retAddr 0] [] S σ τ Q := by
  refine i1 c_50_0 (i6 (L' := [.ref 63, .ref x1, .int (wI x2), .int (wI 0), .retAddr 0, .retAddr 0, .retAddr 0]) c_50_1 rfl (i1 c_50_2 (i6 (L' := [.ref 63, .ref x1, .int (wI x2), .int (wI 0), .int (wI 0), .retAddr 0, .retAddr 0]) c_50_3 rfl t)))
set_option maxRecDepth 20000 in
theorem u_50_5 {d : Nat} {S : zS} {σ τ : zI} {Q : zQ} {x1 : Nat} {x2 : Int} {x3 : Int} {x4 : Int} {y5 : Value} {y6 : Value} (hx1 : oT S x1) (t : (rg x4) ∧ if (301 : Int) ≤ x4 then (wi (d + 8) 50 136 [.ref 63, .ref x1, .int (wI x2), .int (wI x3), .int (wI x4), y5, y6] [] S σ τ Q) else (if (σ 63 5) = 0 then (wc (d + 7) 51 [.ref 63, .ref x1, .int (wI x2)] S σ τ (fun r S1 σ1 τ1 => wi (d + 8) 50 28 [.ref 63, .ref x1, .int (wI x2), .int (wI x3), .int (wI x4), y5, y6] (r.toList ++ []) S1 σ1 τ1 Q)) else (wi (d + 8) 50 136 [.ref 63, .ref x1, .int (wI x2), .int (wI x3), .int (wI x4), y5, y6] [] S σ τ Q))) : wi (d + 8) 50 5 [.ref 63, .ref x1, .int (wI x2), .int (wI x3), .int (wI x4), y5, y6] [] S σ τ Q := by
  obtain ⟨r1, t⟩ := t
  refine i3 c_50_5 rfl (i5 c_50_7 rfl (i45 c_50_8 (lo (c := 63) (kd := 103) (n := 0) rfl (by decide)) (lro (c := 63) (k := 0) (j := 64) (by decide)) (i58 (v := 301) c_50_11 (lo (c := 64) (kd := 0) (n := 301) rfl (by decide)) rfl ?_)))
  refine i37 c_50_12 r1 (by decide) rfl (fun hc => ?_) (fun hc => ?_)
  · have t := iT t hc
    have ha2 : (301 : Int) ≤ x4 := hc
    exact t
  · have t := iF t hc
    have ha2 : ¬ ((301 : Int) ≤ x4) := hc
    refine i5 c_50_15 rfl (wi_ok (fun K3 => ?_))
    refine i43 (v := σ 63 5) c_50_16 (lo (c := 63) (kd := 103) (n := 0) rfl (by decide)) rfl ?_
    refine i36 c_50_19 (rge_ K3 rfl) rfl (fun hc => ?_) (fun hc => ?_)
    · have t := iF t hc
      have ha4 : ¬ ((σ 63 5) = 0) := hc
      exact t
    · have t := iT t (Decidable.not_not.mp hc)
      have ha4 : (σ 63 5) = 0 := Decidable.not_not.mp hc
      refine i5 c_50_22 rfl (i5 c_50_23 rfl (i3 c_50_24 rfl ?_))
      exact i80 (As := [.ref x1, .int (wI x2)]) (rest := []) c_50_25 mi_51 rfl rfl (Nat.le_of_ble_eq_true rfl) (Nat.le_of_ble_eq_true rfl) (lo (c := 63) (kd := 103) (n := 0) rfl (by decide)) t
set_option maxRecDepth 20000 in
theorem u_50_28 {d : Nat} {S : zS} {σ τ : zI} {Q : zQ} {x1 : Nat} {x2 : Int} {x3 : Int} {x4 : Int} {y5 : Value} {y6 : Value} (hx1 : oT S x1) (t : wi (d + 8) 50 31 [.ref 63, .ref x1, .int (wI x2), .int (wI x3), .int (wI x4), .int (wI 0), y6] [] S σ τ Q) : wi (d + 8) 50 28 [.ref 63, .ref x1, .int (wI x2), .int (wI x3), .int (wI x4), y5, y6] [] S σ τ Q := by
  refine i1 c_50_28 (i6 (L' := [.ref 63, .ref x1, .int (wI x2), .int (wI x3), .int (wI x4), .int (wI 0), y6]) c_50_29 rfl t)
set_option maxRecDepth 20000 in
theorem u_50_31 {d : Nat} {S : zS} {σ τ : zI} {Q : zQ} {x1 : Nat} {x2 : Int} {x3 : Int} {x4 : Int} {x5 : Int} {y6 : Value} (hx1 : oT S x1) (t : (rg x5) ∧ if (301 : Int) ≤ x5 then (wi (d + 8) 50 97 [.ref 63, .ref x1, .int (wI x2), .int (wI x3), .int (wI x4), .int (wI x5), y6] [] S σ τ Q) else (if (σ 63 5) = 0 then (if (σ 63 4) = 31 then (wi (d + 8) 50 66 [.ref 63, .ref x1, .int (wI x2), .int (wI x3), .int (wI x4), .int (wI x5), y6] [] S σ τ Q) else (if (σ 63 4) = 32 then (wi (d + 8) 50 66 [.ref 63, .ref x1, .int (wI x2), .int (wI x3), .int (wI x4), .int (wI x5), y6] [] S σ τ Q) else (wi (d + 8) 50 97 [.ref 63, .ref x1, .int (wI x2), .int (wI x3), .int (wI x4), .int (wI x5), y6] [] S σ τ Q))) else (wi (d + 8) 50 97 [.ref 63, .ref x1, .int (wI x2), .int (wI x3), .int (wI x4), .int (wI x5), y6] [] S σ τ Q))) : wi (d + 8) 50 31 [.ref 63, .ref x1, .int (wI x2), .int (wI x3), .int (wI x4), .int (wI x5), y6] [] S σ τ Q := by
  obtain ⟨r1, t⟩ := t
  refine i3 c_50_31 rfl (i5 c_50_33 rfl (i45 c_50_34 (lo (c := 63) (kd := 103) (n := 0) rfl (by decide)) (lro (c := 63) (k := 0) (j := 64) (by decide)) (i58 (v := 301) c_50_37 (lo (c := 64) (kd := 0) (n := 301) rfl (by decide)) rfl ?_)))
  refine i37 c_50_38 r1 (by decide) rfl (fun hc => ?_) (fun hc => ?_)
  · have t := iT t hc
    have ha2 : (301 : Int) ≤ x5 := hc
    exact t
  · have t := iF t hc
    have ha2 : ¬ ((301 : Int) ≤ x5) := hc
    refine i5 c_50_41 rfl (wi_ok (fun K3 => ?_))
    refine i43 (v := σ 63 5) c_50_42 (lo (c := 63) (kd := 103) (n := 0) rfl (by decide)) rfl ?_
    refine i36 c_50_45 (rge_ K3 rfl) rfl (fun hc => ?_) (fun hc => ?_)
    · have t := iF t hc
      have ha4 : ¬ ((σ 63 5) = 0) := hc
      exact t
    · have t := iT t (Decidable.not_not.mp hc)
      have ha4 : (σ 63 5) = 0 := Decidable.not_not.mp hc
      refine i5 c_50_48 rfl (i43 (v := σ 63 4) c_50_49 (lo (c := 63) (kd := 103) (n := 0) rfl (by decide)) rfl (i1 c_50_52 ?_))
      refine i37 c_50_54 (rge_ K3 rfl) (by decide) rfl (fun hc => ?_) (fun hc => ?_)
      · have t := iT t hc
        have ha5 : (σ 63 4) = 31 := hc
        exact t
      · have t := iF t hc
        have ha5 : ¬ ((σ 63 4) = 31) := hc
        refine i5 c_50_57 rfl (i43 (v := σ 63 4) c_50_58 (lo (c := 63) (kd := 103) (n := 0) rfl (by decide)) rfl (i1 c_50_61 ?_))
        refine i37 c_50_63 (rge_ K3 rfl) (by decide) rfl (fun hc => ?_) (fun hc => ?_)
        · have t := iF t hc
          have ha6 : ¬ ((σ 63 4) = 32) := hc
          exact t
        · have t := iT t (Decidable.not_not.mp hc)
          have ha6 : (σ 63 4) = 32 := Decidable.not_not.mp hc
          exact t
set_option maxRecDepth 20000 in
theorem u_50_66 {d : Nat} {S : zS} {σ τ : zI} {Q : zQ} {x1 : Nat} {x2 : Int} {x3 : Int} {x4 : Int} {x5 : Int} {y6 : Value} (hx1 : oT S x1) (t : ∃ T2 : Int → Int, ∃ n3 : Int, ∃ s4 : Int, (CR T2 n3 s4 σ ∨ CFS σ) ∧ (CR T2 n3 s4 σ → (1 : Int) ≠ (σ 63 4)) ∧ (TB T2 n3) ∧ ∀ (σ18 : zI), XP T2 n3 s4 (σ 63 4) σ σ18 → wc (d + 7) 51 [.ref 63, .ref x1, .int (wI x2)] S σ18 τ (fun r S1 σ1 τ1 => wi (d + 8) 50 84 [.ref 63, .ref x1, .int (wI x2), .int (wI x3), .int (wI x4), .int (wI x5), .int (wI (σ 63 4))] (r.toList ++ []) S1 σ1 τ1 Q)) : wi (d + 8) 50 66 [.ref 63, .ref x1, .int (wI x2), .int (wI x3), .int (wI x4), .int (wI x5), y6] [] S σ τ Q := by
  refine i5 c_50_66 rfl (wi_ok (fun K1 => ?_))
  obtain ⟨T2, t⟩ := t
  obtain ⟨n3, t⟩ := t
  obtain ⟨s4, t⟩ := t
  obtain ⟨p5, t⟩ := t
  obtain ⟨p6, t⟩ := t
  obtain ⟨p7, t⟩ := t
  refine i43 (v := σ 63 4) c_50_67 (lo (c := 63) (kd := 103) (n := 0) rfl (by decide)) rfl (i6 (L' := [.ref 63, .ref x1, .int (wI x2), .int (wI x3), .int (wI x4), .int (wI x5), .int (wI (σ 63 4))]) c_50_70 rfl (i5 c_50_72 rfl (i3 c_50_73 rfl ?_)))
  refine i80 (As := [.int (wI (σ 63 4))]) (rest := []) c_50_75 mi_44 rfl rfl (Nat.le_of_ble_eq_true rfl) (Nat.le_of_ble_eq_true rfl) (lo (c := 63) (kd := 103) (n := 0) rfl (by decide)) (q_44 (T := T2) (n := n3) (s := s4) p5 p6 (rge_ K1 rfl) p7 (fun σ18 q9 => ?_))
  have t := t σ18 q9
  show wi (d + 8) 50 78 [.ref 63, .ref x1, .int (wI x2), .int (wI x3), .int (wI x4), .int (wI x5), .int (wI (σ 63 4))] [] S σ18 τ Q
  refine i5 c_50_78 rfl (i5 c_50_79 rfl (i3 c_50_80 rfl ?_))
  exact i80 (As := [.ref x1, .int (wI x2)]) (rest := []) c_50_81 mi_51 rfl rfl (Nat.le_of_ble_eq_true rfl) (Nat.le_of_ble_eq_true rfl) (lo (c := 63) (kd := 103) (n := 0) rfl (by decide)) t
set_option maxRecDepth 20000 in
theorem u_50_84 {d : Nat} {S : zS} {σ τ : zI} {Q : zQ} {x1 : Nat} {x2 : Int} {x3 : Int} {x4 : Int} {x5 : Int} {x6 : Int} (hx1 : oT S x1) (t : (0 ≤ σ x1 2 ∧ σ x1 2 ≤ 300) ∧ (rg (x6 * 10000 + 0)) ∧ ∀ (σ13 : zI), CJ x1 σ σ13 → σ13 63 = σ 63 → (σ x1 2 < 300 → σ13 x1 2 = σ x1 2 + 1 ∧ σ13 (x1 + 3) = u1 (σ (x1 + 3)) (σ x1 2) (x6 * 10000 + 0)) → wi (d + 8) 50 31 [.ref 63, .ref x1, .int (wI x2), .int (wI x3), .int (wI x4), .int (wI (x5 + 1)), .int (wI x6)] [] S σ13 τ Q) : wi (d + 8) 50 84 [.ref 63, .ref x1, .int (wI x2), .int (wI x3), .int (wI x4), .int (wI x5), .int (wI x6)] [] S σ τ Q := by
  obtain ⟨p1, t⟩ := t
  obtain ⟨p2, t⟩ := t
  refine i5 c_50_84 rfl (i3 c_50_85 rfl (i1 c_50_87 ?_))
  refine i80 (As := [.int (wI x6), .int (wI 0)]) (rest := []) c_50_88 mi_84 rfl rfl (Nat.le_of_ble_eq_true rfl) (Nat.le_of_ble_eq_true rfl) (fun _ => oT_0 hx1) (q_84 hx1 p1 p2 (fun σ13 q4 q5 q6 => ?_))
  have t := t σ13 q4 q5 q6
  show wi (d + 8) 50 91 [.ref 63, .ref x1, .int (wI x2), .int (wI x3), .int (wI x4), .int (wI x5), .int (wI x6)] [] S σ13 τ Q
  refine i9 (L' := [.ref 63, .ref x1, .int (wI x2), .int (wI x3), .int (wI x4), .int (wI (x5 + 1)), .int (wI x6)]) c_50_91 rfl rfl (i38 c_50_94 rfl t)
set_option maxRecDepth 20000 in
theorem u_50_97 {d : Nat} {S : zS} {σ τ : zI} {Q : zQ} {x1 : Nat} {x2 : Int} {x3 : Int} {x4 : Int} {x5 : Int} {y6 : Value} (hx1 : oT S x1) (t : (rg x3) ∧ if x3 = 0 then (if (σ 63 4) = 29 then (wi (d + 8) 50 125 [.ref 63, .ref x1, .int (wI x2), .int (wI (σ 63 4)), .int (wI x4), .int (wI x5), y6] [] S σ τ Q) else (if (σ 63 4) = 30 then (wi (d + 8) 50 125 [.ref 63, .ref x1, .int (wI x2), .int (wI (σ 63 4)), .int (wI x4), .int (wI x5), y6] [] S σ τ Q) else (Q none S σ τ))) else ((0 ≤ σ x1 2 ∧ σ x1 2 ≤ 300) ∧ (rg (x3 * 10000 + 0)) ∧ ∀ (σ18 : zI), CJ x1 σ σ18 → σ18 63 = σ 63 → (σ x1 2 < 300 → σ18 x1 2 = σ x1 2 + 1 ∧ σ18 (x1 + 3) = u1 (σ (x1 + 3)) (σ x1 2) (x3 * 10000 + 0)) → if (σ18 63 4) = 29 then (wi (d + 8) 50 125 [.ref 63, .ref x1, .int (wI x2), .int (wI (σ18 63 4)), .int (wI x4), .int (wI x5), y6] [] S σ18 τ Q) else (if (σ18 63 4) = 30 then (wi (d + 8) 50 125 [.ref 63, .ref x1, .int (wI x2), .int (wI (σ18 63 4)), .int (wI x4), .int (wI x5), y6] [] S σ18 τ Q) else (Q none S σ18 τ)))) : wi (d + 8) 50 97 [.ref 63, .ref x1, .int (wI x2), .int (wI x3), .int (wI x4), .int (wI x5), y6] [] S σ τ Q := by
  obtain ⟨r1, t⟩ := t
  refine i3 c_50_97 rfl ?_
  refine i36 c_50_98 r1 rfl (fun hc => ?_) (fun hc => ?_)
  · have t := iT t hc
    have ha2 : x3 = 0 := hc
    refine i5 c_50_107 rfl (wi_ok (fun K3 => ?_))
    refine i43 (v := σ 63 4) c_50_108 (lo (c := 63) (kd := 103) (n := 0) rfl (by decide)) rfl (i6 (L' := [.ref 63, .ref x1, .int (wI x2), .int (wI (σ 63 4)), .int (wI x4), .int (wI x5), y6]) c_50_111 rfl (i3 c_50_112 rfl (i1 c_50_113 ?_)))
    refine i37 c_50_115 (rge_ K3 rfl) (by decide) rfl (fun hc => ?_) (fun hc => ?_)
    · have t := iT t hc
      have ha4 : (σ 63 4) = 29 := hc
      exact t
    · have t := iF t hc
      have ha4 : ¬ ((σ 63 4) = 29) := hc
      refine i3 c_50_118 rfl (i1 c_50_119 ?_)
      refine i37 c_50_121 (rge_ K3 rfl) (by decide) rfl (fun hc => ?_) (fun hc => ?_)
      · have t := iT t hc
        have ha5 : (σ 63 4) = 30 := hc
        exact t
      · have t := iF t hc
        have ha5 : ¬ ((σ 63 4) = 30) := hc
        exact i94 c_50_124 t
  · have t := iF t hc
    have ha2 : ¬ (x3 = 0) := hc
    obtain ⟨p6, t⟩ := t
    obtain ⟨p7, t⟩ := t
    refine i5 c_50_101 rfl (i3 c_50_102 rfl (i1 c_50_103 ?_))
    refine i80 (As := [.int (wI x3), .int (wI 0)]) (rest := []) c_50_104 mi_84 rfl rfl (Nat.le_of_ble_eq_true rfl) (Nat.le_of_ble_eq_true rfl) (fun _ => oT_0 hx1) (q_84 hx1 p6 p7 (fun σ18 q9 q10 q11 => ?_))
    have t := t σ18 q9 q10 q11
    show wi (d + 8) 50 107 [.ref 63, .ref x1, .int (wI x2), .int (wI x3), .int (wI x4), .int (wI x5), y6] [] S σ18 τ Q
    refine i5 c_50_107 rfl (wi_ok (fun K12 => ?_))
    refine i43 (v := σ18 63 4) c_50_108 (lo (c := 63) (kd := 103) (n := 0) rfl (by decide)) rfl (i6 (L' := [.ref 63, .ref x1, .int (wI x2), .int (wI (σ18 63 4)), .int (wI x4), .int (wI x5), y6]) c_50_111 rfl (i3 c_50_112 rfl (i1 c_50_113 ?_)))
    refine i37 c_50_115 (rge_ K12 rfl) (by decide) rfl (fun hc => ?_) (fun hc => ?_)
    · have t := iT t hc
      have ha13 : (σ18 63 4) = 29 := hc
      exact t
    · have t := iF t hc
      have ha13 : ¬ ((σ18 63 4) = 29) := hc
      refine i3 c_50_118 rfl (i1 c_50_119 ?_)
      refine i37 c_50_121 (rge_ K12 rfl) (by decide) rfl (fun hc => ?_) (fun hc => ?_)
      · have t := iT t hc
        have ha14 : (σ18 63 4) = 30 := hc
        exact t
      · have t := iF t hc
        have ha14 : ¬ ((σ18 63 4) = 30) := hc
        exact i94 c_50_124 t
set_option maxRecDepth 20000 in
theorem u_50_125 {d : Nat} {S : zS} {σ τ : zI} {Q : zQ} {x1 : Nat} {x2 : Int} {x3 : Int} {x4 : Int} {x5 : Int} {y6 : Value} (hx1 : oT S x1) (t : ∃ T1 : Int → Int, ∃ n2 : Int, ∃ s3 : Int, (CR T1 n2 s3 σ ∨ CFS σ) ∧ (CR T1 n2 s3 σ → (1 : Int) ≠ x3) ∧ (rg x3) ∧ (TB T1 n2) ∧ ∀ (σ18 : zI), XP T1 n2 s3 x3 σ σ18 → wi (d + 8) 50 5 [.ref 63, .ref x1, .int (wI x2), .int (wI x3), .int (wI (x4 + 1)), .int (wI x5), y6] [] S σ18 τ Q) : wi (d + 8) 50 125 [.ref 63, .ref x1, .int (wI x2), .int (wI x3), .int (wI x4), .int (wI x5), y6] [] S σ τ Q := by
  obtain ⟨T1, t⟩ := t
  obtain ⟨n2, t⟩ := t
  obtain ⟨s3, t⟩ := t
  obtain ⟨p4, t⟩ := t
  obtain ⟨p5, t⟩ := t
  obtain ⟨r6, t⟩ := t
  obtain ⟨p7, t⟩ := t
  refine i5 c_50_125 rfl (i3 c_50_126 rfl ?_)
  refine i80 (As := [.int (wI x3)]) (rest := []) c_50_127 mi_44 rfl rfl (Nat.le_of_ble_eq_true rfl) (Nat.le_of_ble_eq_true rfl) (lo (c := 63) (kd := 103) (n := 0) rfl (by decide)) (q_44 (T := T1) (n := n2) (s := s3) p4 p5 r6 p7 (fun σ18 q9 => ?_))
  have t := t σ18 q9
  show wi (d + 8) 50 130 [.ref 63, .ref x1, .int (wI x2), .int (wI x3), .int (wI x4), .int (wI x5), y6] [] S σ18 τ Q
  refine i9 (L' := [.ref 63, .ref x1, .int (wI x2), .int (wI x3), .int (wI (x4 + 1)), .int (wI x5), y6]) c_50_130 rfl rfl (i38 c_50_133 rfl t)
set_option maxRecDepth 20000 in
theorem u_50_136 {d : Nat} {S : zS} {σ τ : zI} {Q : zQ} {x1 : Nat} {x2 : Int} {x3 : Int} {x4 : Int} {y5 : Value} {y6 : Value} (hx1 : oT S x1) (t : Q none S σ τ) : wi (d + 8) 50 136 [.ref 63, .ref x1, .int (wI x2), .int (wI x3), .int (wI x4), y5, y6] [] S σ τ Q := by
  exact i94 c_50_136 t
set_option maxRecDepth 20000 in
theorem u_51_0 {d : Nat} {S : zS} {σ τ : zI} {Q : zQ} {x1 : Nat} {x2 : Int} (hx1 : oT S x1) (t : if (σ 63 4) = 21 then (wi (d + 8) 51 17 [.ref 63, .ref x1, .int (wI x2), .int (wI (σ 63 4)), .retAddr 0] [] S σ τ Q) else (if (σ 63 4) = 22 then (wi (d + 8) 51 17 [.ref 63, .ref x1, .int (wI x2), .int (wI (σ 63 4)), .retAddr 0] [] S σ τ Q) else (wi (d + 8) 51 22 [.ref 63, .ref x1, .int (wI x2), .int (wI (σ 63 4)), .retAddr 0] [.int (wI 0)] S σ τ Q))) : wi (d + 8) 51 0 [.ref 63, .ref x1, .int (wI x2), .retAddr 0, .retAddr 0] [] S σ τ Q := by
  refine i5 c_51_0 rfl (wi_ok (fun K1 => ?_))
  refine i43 (v := σ 63 4) c_51_1 (lo (c := 63) (kd := 103) (n := 0) rfl (by decide)) rfl (i6 (L' := [.ref 63, .ref x1, .int (wI x2), .int (wI (σ 63 4)), .retAddr 0]) c_51_4 rfl (i3 c_51_5 rfl (i1 c_51_6 ?_)))
  refine i37 c_51_8 (rge_ K1 rfl) (by decide) rfl (fun hc => ?_) (fun hc => ?_)
  · have t := iT t hc
    have ha2 : (σ 63 4) = 21 := hc
    exact t
  · have t := iF t hc
    have ha2 : ¬ ((σ 63 4) = 21) := hc
    refine i3 c_51_11 rfl (i1 c_51_12 ?_)
    refine i37 c_51_14 (rge_ K1 rfl) (by decide) rfl (fun hc => ?_) (fun hc => ?_)
    · have t := iF t hc
      have ha3 : ¬ ((σ 63 4) = 22) := hc
      refine i1 c_51_21 t
    · have t := iT t (Decidable.not_not.mp hc)
      have ha3 : (σ 63 4) = 22 := Decidable.not_not.mp hc
      exact t
set_option maxRecDepth 20000 in
theorem u_51_17 {d : Nat} {S : zS} {σ τ : zI} {Q : zQ} {x1 : Nat} {x2 : Int} {x3 : Int} {y4 : Value} (hx1 : oT S x1) (t : wi (d + 8) 51 22 [.ref 63, .ref x1, .int (wI x2), .int (wI x3), y4] [.int (wI 1)] S σ τ Q) : wi (d + 8) 51 17 [.ref 63, .ref x1, .int (wI x2), .int (wI x3), y4] [] S σ τ Q := by
  refine i1 c_51_17 (i38 c_51_18 rfl t)
set_option maxRecDepth 20000 in
theorem u_51_22 {d : Nat} {S : zS} {σ τ : zI} {Q : zQ} {x1 : Nat} {x2 : Int} {x3 : Int} {y4 : Value} {s0 : Int} (hx1 : oT S x1) (t : (rg x3) ∧ if x3 = 2 then (if (301 : Int) ≤ (σ 63 3) then (wi (d + 8) 51 85 [.ref 63, .ref x1, .int (wI x2), .int (wI x3), .int (wI s0)] [] S σ τ Q) else ((0 ≤ σ 63 3 ∧ σ 63 3 < 301) ∧ if (σ 66 (σ 63 3)) ≤ 9999 then ((0 ≤ σ x1 2 ∧ σ x1 2 ≤ 300) ∧ (rg (2 * 10000 + (Int.tmod (σ 66 (σ 63 3)) 10000))) ∧ ∀ (σ19 : zI), CJ x1 σ σ19 → σ19 63 = σ 63 → (σ x1 2 < 300 → σ19 x1 2 = σ x1 2 + 1 ∧ σ19 (x1 + 3) = u1 (σ (x1 + 3)) (σ x1 2) (2 * 10000 + (Int.tmod (σ 66 (σ 63 3)) 10000))) → ∃ T13 : Int → Int, ∃ n14 : Int, ∃ s15 : Int, (CR T13 n14 s15 σ19 ∨ CFS σ19) ∧ (CR T13 n14 s15 σ19 → (1 : Int) ≠ 2) ∧ (TB T13 n14) ∧ ∀ (σ119 : zI), XP T13 n14 s15 2 σ19 σ119 → Q none S σ119 τ) else (∃ T21 : Int → Int, ∃ n22 : Int, ∃ s23 : Int, (CR T21 n22 s23 σ ∨ CFS σ) ∧ (TB T21 n22) ∧ ∀ (σ126 : zI), CK σ σ126 → (CFS σ → σ126 = σ) → (CR T21 n22 s23 σ → CD 2 s23 σ126) → (0 ≤ σ126 63 3 ∧ σ126 63 3 < 301) ∧ (0 ≤ σ126 x1 2 ∧ σ126 x1 2 ≤ 300) ∧ (rg (2 * 10000 + (Int.tmod (σ126 66 (σ126 63 3)) 10000))) ∧ ∀ (σ134 : zI), CJ x1 σ126 σ134 → σ134 63 = σ126 63 → (σ126 x1 2 < 300 → σ134 x1 2 = σ126 x1 2 + 1 ∧ σ134 (x1 + 3) = u1 (σ126 (x1 + 3)) (σ126 x1 2) (2 * 10000 + (Int.tmod (σ126 66 (σ126 63 3)) 10000))) → ∃ T38 : Int → Int, ∃ n39 : Int, ∃ s40 : Int, (CR T38 n39 s40 σ134 ∨ CFS σ134) ∧ (CR T38 n39 s40 σ134 → (1 : Int) ≠ 2) ∧ (TB T38 n39) ∧ ∀ (σ144 : zI), XP T38 n39 s40 2 σ134 σ144 → Q none S σ144 τ))) else (wi (d + 8) 51 85 [.ref 63, .ref x1, .int (wI x2), .int (wI x3), .int (wI s0)] [] S σ τ Q)) : wi (d + 8) 51 22 [.ref 63, .ref x1, .int (wI x2), .int (wI x3), y4] [.int (wI s0)] S σ τ Q := by
  obtain ⟨r1, t⟩ := t
  refine i6 (L' := [.ref 63, .ref x1, .int (wI x2), .int (wI x3), .int (wI s0)]) c_51_22 rfl (i3 c_51_24 rfl (i1 c_51_25 ?_))
  refine i37 c_51_26 r1 (by decide) rfl (fun hc => ?_) (fun hc => ?_)
  · have t := iF t hc
    have ha2 : ¬ (x3 = 2) := hc
    exact t
  · have t := iT t (Decidable.not_not.mp hc)
    have ha2 : x3 = 2 := Decidable.not_not.mp hc
    refine i5 c_51_29 rfl (wi_ok (fun K3 => ?_))
    refine i43 (v := σ 63 3) c_51_30 (lo (c := 63) (kd := 103) (n := 0) rfl (by decide)) rfl (i5 c_51_33 rfl (i45 c_51_34 (lo (c := 63) (kd := 103) (n := 0) rfl (by decide)) (lro (c := 63) (k := 2) (j := 66) (by decide)) (i58 (v := 301) c_51_37 (lo (c := 66) (kd := 0) (n := 301) rfl (by decide)) rfl ?_)))
    refine i37 c_51_38 (rge_ K3 rfl) (by decide) rfl (fun hc => ?_) (fun hc => ?_)
    · have t := iT t hc
      have ha4 : (301 : Int) ≤ (σ 63 3) := hc
      exact t
    · have t := iF t hc
      have ha4 : ¬ ((301 : Int) ≤ (σ 63 3)) := hc
      obtain ⟨r5, t⟩ := t
      refine i5 c_51_41 rfl (i45 c_51_42 (lo (c := 63) (kd := 103) (n := 0) rfl (by decide)) (lro (c := 63) (k := 2) (j := 66) (by decide)) (i5 c_51_45 rfl (i43 (v := σ 63 3) c_51_46 (lo (c := 63) (kd := 103) (n := 0) rfl (by decide)) rfl (i50 (v := σ 66 (σ 63 3)) c_51_49 (lo (c := 66) (kd := 0) (n := 301) rfl (by decide)) (by decide) r5 rfl (i1 c_51_50 ?_)))))
      refine i37 c_51_53 (rge_ K3 rfl) (by decide) rfl (fun hc => ?_) (fun hc => ?_)
      · have t := iT t hc
        have ha6 : (σ 66 (σ 63 3)) ≤ 9999 := hc
        obtain ⟨p7, t⟩ := t
        obtain ⟨p8, t⟩ := t
        refine i5 c_51_61 rfl (i1 c_51_62 (i5 c_51_63 rfl (i45 c_51_64 (lo (c := 63) (kd := 103) (n := 0) rfl (by decide)) (lro (c := 63) (k := 2) (j := 66) (by decide)) (i5 c_51_67 rfl (i43 (v := σ 63 3) c_51_68 (lo (c := 63) (kd := 103) (n := 0) rfl (by decide)) rfl (i50 (v := σ 66 (σ 63 3)) c_51_71 (lo (c := 66) (kd := 0) (n := 301) rfl (by decide)) (by decide) r5 rfl (i1 c_51_72 (i17 c_51_75 (rge_ K3 rfl) (by decide) (by decide) ?_))))))))
        refine i80 (As := [.int (wI 2), .int (wI (Int.tmod (σ 66 (σ 63 3)) 10000))]) (rest := []) c_51_76 mi_84 rfl rfl (Nat.le_of_ble_eq_true rfl) (Nat.le_of_ble_eq_true rfl) (fun _ => oT_0 hx1) (q_84 hx1 p7 p8 (fun σ19 q10 q11 q12 => ?_))
        have t := t σ19 q10 q11 q12
        show wi (d + 8) 51 79 [.ref 63, .ref x1, .int (wI x2), .int (wI x3), .int (wI s0)] [] S σ19 τ Q
        obtain ⟨T13, t⟩ := t
        obtain ⟨n14, t⟩ := t
        obtain ⟨s15, t⟩ := t
        obtain ⟨p16, t⟩ := t
        obtain ⟨p17, t⟩ := t
        obtain ⟨p18, t⟩ := t
        refine i5 c_51_79 rfl (i1 c_51_80 ?_)
        refine i80 (As := [.int (wI 2)]) (rest := []) c_51_81 mi_44 rfl rfl (Nat.le_of_ble_eq_true rfl) (Nat.le_of_ble_eq_true rfl) (lo (c := 63) (kd := 103) (n := 0) rfl (by decide)) (q_44 (T := T13) (n := n14) (s := s15) p16 p17 (by decide) p18 (fun σ119 q20 => ?_))
        have t := t σ119 q20
        show wi (d + 8) 51 84 [.ref 63, .ref x1, .int (wI x2), .int (wI x3), .int (wI s0)] [] S σ119 τ Q
        exact i94 c_51_84 t
      · have t := iF t hc
        have ha6 : ¬ ((σ 66 (σ 63 3)) ≤ 9999) := hc
        obtain ⟨T21, t⟩ := t
        obtain ⟨n22, t⟩ := t
        obtain ⟨s23, t⟩ := t
        obtain ⟨p24, t⟩ := t
        obtain ⟨p25, t⟩ := t
        refine i5 c_51_56 rfl (i1 c_51_57 ?_)
        refine i80 (As := [.int (wI 2)]) (rest := []) c_51_58 mi_43 rfl rfl (Nat.le_of_ble_eq_true rfl) (Nat.le_of_ble_eq_true rfl) (lo (c := 63) (kd := 103) (n := 0) rfl (by decide)) (q_43 (T := T21) (n := n22) (s := s23) p24 (by decide) p25 (fun σ126 q27 q28 q29 => ?_))
        have t := t σ126 q27 q28 q29
        show wi (d + 8) 51 61 [.ref 63, .ref x1, .int (wI x2), .int (wI x3), .int (wI s0)] [] S σ126 τ Q
        refine i5 c_51_61 rfl (i1 c_51_62 (i5 c_51_63 rfl (i45 c_51_64 (lo (c := 63) (kd := 103) (n := 0) rfl (by decide)) (lro (c := 63) (k := 2) (j := 66) (by decide)) (i5 c_51_67 rfl (wi_ok (fun K30 => ?_))))))
        obtain ⟨r31, t⟩ := t
        obtain ⟨p32, t⟩ := t
        obtain ⟨p33, t⟩ := t
        refine i43 (v := σ126 63 3) c_51_68 (lo (c := 63) (kd := 103) (n := 0) rfl (by decide)) rfl (i50 (v := σ126 66 (σ126 63 3)) c_51_71 (lo (c := 66) (kd := 0) (n := 301) rfl (by decide)) (by decide) r31 rfl (i1 c_51_72 (i17 c_51_75 (rge_ K30 rfl) (by decide) (by decide) ?_)))
        refine i80 (As := [.int (wI 2), .int (wI (Int.tmod (σ126 66 (σ126 63 3)) 10000))]) (rest := []) c_51_76 mi_84 rfl rfl (Nat.le_of_ble_eq_true rfl) (Nat.le_of_ble_eq_true rfl) (fun _ => oT_0 hx1) (q_84 hx1 p32 p33 (fun σ134 q35 q36 q37 => ?_))
        have t := t σ134 q35 q36 q37
        show wi (d + 8) 51 79 [.ref 63, .ref x1, .int (wI x2), .int (wI x3), .int (wI s0)] [] S σ134 τ Q
        obtain ⟨T38, t⟩ := t
        obtain ⟨n39, t⟩ := t
        obtain ⟨s40, t⟩ := t
        obtain ⟨p41, t⟩ := t
        obtain ⟨p42, t⟩ := t
        obtain ⟨p43, t⟩ := t
        refine i5 c_51_79 rfl (i1 c_51_80 ?_)
        refine i80 (As := [.int (wI 2)]) (rest := []) c_51_81 mi_44 rfl rfl (Nat.le_of_ble_eq_true rfl) (Nat.le_of_ble_eq_true rfl) (lo (c := 63) (kd := 103) (n := 0) rfl (by decide)) (q_44 (T := T38) (n := n39) (s := s40) p41 p42 (by decide) p43 (fun σ144 q45 => ?_))
        have t := t σ144 q45
        show wi (d + 8) 51 84 [.ref 63, .ref x1, .int (wI x2), .int (wI x3), .int (wI s0)] [] S σ144 τ Q
        exact i94 c_51_84 t
set_option maxRecDepth 20000 in
theorem u_51_85 {d : Nat} {S : zS} {σ τ : zI} {Q : zQ} {x1 : Nat} {x2 : Int} {x3 : Int} {x4 : Int} (hx1 : oT S x1) (t : (rg x3) ∧ if x3 < 17 then (wi (d + 8) 51 109 [.ref 63, .ref x1, .int (wI x2), .int (wI x3), .int (wI x4)] [] S σ τ Q) else (if (20 : Int) < x3 then (wi (d + 8) 51 109 [.ref 63, .ref x1, .int (wI x2), .int (wI x3), .int (wI x4)] [] S σ τ Q) else ((0 ≤ σ x1 2 ∧ σ x1 2 ≤ 300) ∧ (rg (x3 * 10000 + 0)) ∧ ∀ (σ16 : zI), CJ x1 σ σ16 → σ16 63 = σ 63 → (σ x1 2 < 300 → σ16 x1 2 = σ x1 2 + 1 ∧ σ16 (x1 + 3) = u1 (σ (x1 + 3)) (σ x1 2) (x3 * 10000 + 0)) → ∃ T10 : Int → Int, ∃ n11 : Int, ∃ s12 : Int, (CR T10 n11 s12 σ16 ∨ CFS σ16) ∧ (CR T10 n11 s12 σ16 → (1 : Int) ≠ x3) ∧ (TB T10 n11) ∧ ∀ (σ116 : zI), XP T10 n11 s12 x3 σ16 σ116 → Q none S σ116 τ))) : wi (d + 8) 51 85 [.ref 63, .ref x1, .int (wI x2), .int (wI x3), .int (wI x4)] [] S σ τ Q := by
  obtain ⟨r1, t⟩ := t
  refine i3 c_51_85 rfl (i1 c_51_86 ?_)
  refine i37 c_51_88 r1 (by decide) rfl (fun hc => ?_) (fun hc => ?_)
  · have t := iT t hc
    have ha2 : x3 < 17 := hc
    exact t
  · have t := iF t hc
    have ha2 : ¬ (x3 < 17) := hc
    refine i3 c_51_91 rfl (i1 c_51_92 ?_)
    refine i37 c_51_94 r1 (by decide) rfl (fun hc => ?_) (fun hc => ?_)
    · have t := iT t hc
      have ha3 : (20 : Int) < x3 := hc
      exact t
    · have t := iF t hc
      have ha3 : ¬ ((20 : Int) < x3) := hc
      obtain ⟨p4, t⟩ := t
      obtain ⟨p5, t⟩ := t
      refine i5 c_51_97 rfl (i3 c_51_98 rfl (i1 c_51_99 ?_))
      refine i80 (As := [.int (wI x3), .int (wI 0)]) (rest := []) c_51_100 mi_84 rfl rfl (Nat.le_of_ble_eq_true rfl) (Nat.le_of_ble_eq_true rfl) (fun _ => oT_0 hx1) (q_84 hx1 p4 p5 (fun σ16 q7 q8 q9 => ?_))
      have t := t σ16 q7 q8 q9
      show wi (d + 8) 51 103 [.ref 63, .ref x1, .int (wI x2), .int (wI x3), .int (wI x4)] [] S σ16 τ Q
      obtain ⟨T10, t⟩ := t
      obtain ⟨n11, t⟩ := t
      obtain ⟨s12, t⟩ := t
      obtain ⟨p13, t⟩ := t
      obtain ⟨p14, t⟩ := t
      obtain ⟨p15, t⟩ := t
      refine i5 c_51_103 rfl (i3 c_51_104 rfl ?_)
      refine i80 (As := [.int (wI x3)]) (rest := []) c_51_105 mi_44 rfl rfl (Nat.le_of_ble_eq_true rfl) (Nat.le_of_ble_eq_true rfl) (lo (c := 63) (kd := 103) (n := 0) rfl (by decide)) (q_44 (T := T10) (n := n11) (s := s12) p13 p14 r1 p15 (fun σ116 q17 => ?_))
      have t := t σ116 q17
      show wi (d + 8) 51 108 [.ref 63, .ref x1, .int (wI x2), .int (wI x3), .int (wI x4)] [] S σ116 τ Q
      exact i94 c_51_108 t
set_option maxRecDepth 20000 in
theorem u_51_109 {d : Nat} {S : zS} {σ τ : zI} {Q : zQ} {x1 : Nat} {x2 : Int} {x3 : Int} {x4 : Int} (hx1 : oT S x1) (t : (rg x4) ∧ if x4 = 0 then (if (σ 63 4) = 33 then (wi (d + 8) 51 150 [.ref 63, .ref x1, .int (wI x2), .int (wI x3), .int (wI x4)] [] S σ τ Q) else (if (σ 63 4) = 30 then (wi (d + 8) 51 150 [.ref 63, .ref x1, .int (wI x2), .int (wI x3), .int (wI x4)] [] S σ τ Q) else (wi (d + 8) 51 142 [.ref 63, .ref x1, .int (wI x2), .int (wI x3), .int (wI x4)] [] S σ τ Q))) else (∃ T7 : Int → Int, ∃ n8 : Int, ∃ s9 : Int, (CR T7 n8 s9 σ ∨ CFS σ) ∧ (CR T7 n8 s9 σ → (1 : Int) ≠ x3) ∧ (rg x3) ∧ (TB T7 n8) ∧ ∀ (σ114 : zI), XP T7 n8 s9 x3 σ σ114 → if (σ114 63 4) = 33 then (wi (d + 8) 51 150 [.ref 63, .ref x1, .int (wI x2), .int (wI x3), .int (wI x4)] [] S σ114 τ Q) else (wi (d + 8) 51 142 [.ref 63, .ref x1, .int (wI x2), .int (wI x3), .int (wI x4)] [] S σ114 τ Q))) : wi (d + 8) 51 109 [.ref 63, .ref x1, .int (wI x2), .int (wI x3), .int (wI x4)] [] S σ τ Q := by
  obtain ⟨r1, t⟩ := t
  refine i3 c_51_109 rfl ?_
  refine i36 c_51_111 r1 rfl (fun hc => ?_) (fun hc => ?_)
  · have t := iT t hc
    have ha2 : x4 = 0 := hc
    refine i5 c_51_119 rfl (wi_ok (fun K3 => ?_))
    refine i43 (v := σ 63 4) c_51_120 (lo (c := 63) (kd := 103) (n := 0) rfl (by decide)) rfl (i1 c_51_123 ?_)
    refine i37 c_51_125 (rge_ K3 rfl) (by decide) rfl (fun hc => ?_) (fun hc => ?_)
    · have t := iT t hc
      have ha4 : (σ 63 4) = 33 := hc
      exact t
    · have t := iF t hc
      have ha4 : ¬ ((σ 63 4) = 33) := hc
      refine i3 c_51_128 rfl ?_
      refine i36 c_51_130 r1 rfl (fun hc => absurd (show x4 = 0 by omega) hc) (fun _ => ?_)
      refine i5 c_51_133 rfl (i43 (v := σ 63 4) c_51_134 (lo (c := 63) (kd := 103) (n := 0) rfl (by decide)) rfl (i1 c_51_137 ?_))
      refine i37 c_51_139 (rge_ K3 rfl) (by decide) rfl (fun hc => ?_) (fun hc => ?_)
      · have t := iT t hc
        have ha6 : (σ 63 4) = 30 := hc
        exact t
      · have t := iF t hc
        have ha6 : ¬ ((σ 63 4) = 30) := hc
        exact t
  · have t := iF t hc
    have ha2 : ¬ (x4 = 0) := hc
    obtain ⟨T7, t⟩ := t
    obtain ⟨n8, t⟩ := t
    obtain ⟨s9, t⟩ := t
    obtain ⟨p10, t⟩ := t
    obtain ⟨p11, t⟩ := t
    obtain ⟨r12, t⟩ := t
    obtain ⟨p13, t⟩ := t
    refine i5 c_51_114 rfl (i3 c_51_115 rfl ?_)
    refine i80 (As := [.int (wI x3)]) (rest := []) c_51_116 mi_44 rfl rfl (Nat.le_of_ble_eq_true rfl) (Nat.le_of_ble_eq_true rfl) (lo (c := 63) (kd := 103) (n := 0) rfl (by decide)) (q_44 (T := T7) (n := n8) (s := s9) p10 p11 r12 p13 (fun σ114 q15 => ?_))
    have t := t σ114 q15
    show wi (d + 8) 51 119 [.ref 63, .ref x1, .int (wI x2), .int (wI x3), .int (wI x4)] [] S σ114 τ Q
    refine i5 c_51_119 rfl (wi_ok (fun K16 => ?_))
    refine i43 (v := σ114 63 4) c_51_120 (lo (c := 63) (kd := 103) (n := 0) rfl (by decide)) rfl (i1 c_51_123 ?_)
    refine i37 c_51_125 (rge_ K16 rfl) (by decide) rfl (fun hc => ?_) (fun hc => ?_)
    · have t := iT t hc
      have ha17 : (σ114 63 4) = 33 := hc
      exact t
    · have t := iF t hc
      have ha17 : ¬ ((σ114 63 4) = 33) := hc
      refine i3 c_51_128 rfl ?_
      refine i36 c_51_130 r1 rfl (fun _ => ?_) (fun hc => absurd (show ¬ (x4 = 0) by omega) hc)
      exact t
set_option maxRecDepth 20000 in
theorem u_51_142 {d : Nat} {S : zS} {σ τ : zI} {Q : zQ} {x1 : Nat} {x2 : Int} {x3 : Int} {x4 : Int} (hx1 : oT S x1) (t : ∃ T1 : Int → Int, ∃ n2 : Int, ∃ s3 : Int, (CR T1 n2 s3 σ ∨ CFS σ) ∧ (TB T1 n2) ∧ ∀ (σ16 : zI), CK σ σ16 → (CFS σ → σ16 = σ) → (CR T1 n2 s3 σ → CD 1 s3 σ16) → wi (d + 8) 51 242 [.ref 63, .ref x1, .int (wI x2), .int (wI x3), .int (wI x4)] [] S σ16 τ Q) : wi (d + 8) 51 142 [.ref 63, .ref x1, .int (wI x2), .int (wI x3), .int (wI x4)] [] S σ τ Q := by
  obtain ⟨T1, t⟩ := t
  obtain ⟨n2, t⟩ := t
  obtain ⟨s3, t⟩ := t
  obtain ⟨p4, t⟩ := t
  obtain ⟨p5, t⟩ := t
  refine i5 c_51_142 rfl (i1 c_51_143 ?_)
  refine i80 (As := [.int (wI 1)]) (rest := []) c_51_144 mi_43 rfl rfl (Nat.le_of_ble_eq_true rfl) (Nat.le_of_ble_eq_true rfl) (lo (c := 63) (kd := 103) (n := 0) rfl (by decide)) (q_43 (T := T1) (n := n2) (s := s3) p4 (by decide) p5 (fun σ16 q7 q8 q9 => ?_))
  have t := t σ16 q7 q8 q9
  show wi (d + 8) 51 147 [.ref 63, .ref x1, .int (wI x2), .int (wI x3), .int (wI x4)] [] S σ16 τ Q
  refine i38 c_51_147 rfl t
set_option maxRecDepth 20000 in
theorem u_51_150 {d : Nat} {S : zS} {σ τ : zI} {Q : zQ} {x1 : Nat} {x2 : Int} {x3 : Int} {x4 : Int} (hx1 : oT S x1) (t : (rg x2) ∧ if x2 < 8 then (if (σ 63 4) = 30 then (∃ T13 : Int → Int, ∃ n14 : Int, ∃ s15 : Int, (CR T13 n14 s15 σ ∨ CFS σ) ∧ (CR T13 n14 s15 σ → (1 : Int) ≠ 30) ∧ (TB T13 n14) ∧ ∀ (σ119 : zI), XP T13 n14 s15 30 σ σ119 → wc (d + 7) 51 [.ref 63, .ref x1, .int (wI (x2 + 1))] S σ119 τ (fun r S1 σ1 τ1 => wi (d + 8) 51 187 [.ref 63, .ref x1, .int (wI x2), .int (wI x3), .int (wI x4)] (r.toList ++ []) S1 σ1 τ1 Q)) else (∃ T5 : Int → Int, ∃ n6 : Int, ∃ s7 : Int, (CR T5 n6 s7 σ ∨ CFS σ) ∧ (CR T5 n6 s7 σ → (1 : Int) ≠ 33) ∧ (TB T5 n6) ∧ ∀ (σ111 : zI), XP T5 n6 s7 33 σ σ111 → wc (d + 7) 50 [.ref 63, .ref x1, .int (wI (x2 + 1))] S σ111 τ (fun r S1 σ1 τ1 => wi (d + 8) 51 211 [.ref 63, .ref x1, .int (wI x2), .int (wI x3), .int (wI x4)] (r.toList ++ []) S1 σ1 τ1 Q))) else (∃ T21 : Int → Int, ∃ n22 : Int, ∃ s23 : Int, (CR T21 n22 s23 σ ∨ CFS σ) ∧ (TB T21 n22) ∧ ∀ (σ126 : zI), CK σ σ126 → (CFS σ → σ126 = σ) → (CR T21 n22 s23 σ → CD 3 s23 σ126) → wi (d + 8) 51 242 [.ref 63, .ref x1, .int (wI x2), .int (wI x3), .int (wI x4)] [] S σ126 τ Q)) : wi (d + 8) 51 150 [.ref 63, .ref x1, .int (wI x2), .int (wI x3), .int (wI x4)] [] S σ τ Q := by
  obtain ⟨r1, t⟩ := t
  refine i3 c_51_150 rfl (i1 c_51_151 ?_)
  refine i37 c_51_153 r1 (by decide) rfl (fun hc => ?_) (fun hc => ?_)
  · have t := iT t hc
    have ha2 : x2 < 8 := hc
    refine i5 c_51_164 rfl (wi_ok (fun K3 => ?_))
    refine i43 (v := σ 63 4) c_51_165 (lo (c := 63) (kd := 103) (n := 0) rfl (by decide)) rfl (i1 c_51_168 ?_)
    refine i37 c_51_170 (rge_ K3 rfl) (by decide) rfl (fun hc => ?_) (fun hc => ?_)
    · have t := iF t hc
      have ha4 : ¬ ((σ 63 4) = 30) := hc
      obtain ⟨T5, t⟩ := t
      obtain ⟨n6, t⟩ := t
      obtain ⟨s7, t⟩ := t
      obtain ⟨p8, t⟩ := t
      obtain ⟨p9, t⟩ := t
      obtain ⟨p10, t⟩ := t
      refine i5 c_51_197 rfl (i1 c_51_198 ?_)
      refine i80 (As := [.int (wI 33)]) (rest := []) c_51_200 mi_44 rfl rfl (Nat.le_of_ble_eq_true rfl) (Nat.le_of_ble_eq_true rfl) (lo (c := 63) (kd := 103) (n := 0) rfl (by decide)) (q_44 (T := T5) (n := n6) (s := s7) p8 p9 (by decide) p10 (fun σ111 q12 => ?_))
      have t := t σ111 q12
      show wi (d + 8) 51 203 [.ref 63, .ref x1, .int (wI x2), .int (wI x3), .int (wI x4)] [] S σ111 τ Q
      refine i5 c_51_203 rfl (i5 c_51_204 rfl (i3 c_51_205 rfl (i1 c_51_206 (i10 c_51_207 ?_))))
      exact i80 (As := [.ref x1, .int (wI (x2 + 1))]) (rest := []) c_51_208 mi_50 rfl rfl (Nat.le_of_ble_eq_true rfl) (Nat.le_of_ble_eq_true rfl) (lo (c := 63) (kd := 103) (n := 0) rfl (by decide)) t
    · have t := iT t (Decidable.not_not.mp hc)
      have ha4 : (σ 63 4) = 30 := Decidable.not_not.mp hc
      obtain ⟨T13, t⟩ := t
      obtain ⟨n14, t⟩ := t
      obtain ⟨s15, t⟩ := t
      obtain ⟨p16, t⟩ := t
      obtain ⟨p17, t⟩ := t
      obtain ⟨p18, t⟩ := t
      refine i5 c_51_173 rfl (i1 c_51_174 ?_)
      refine i80 (As := [.int (wI 30)]) (rest := []) c_51_176 mi_44 rfl rfl (Nat.le_of_ble_eq_true rfl) (Nat.le_of_ble_eq_true rfl) (lo (c := 63) (kd := 103) (n := 0) rfl (by decide)) (q_44 (T := T13) (n := n14) (s := s15) p16 p17 (by decide) p18 (fun σ119 q20 => ?_))
      have t := t σ119 q20
      show wi (d + 8) 51 179 [.ref 63, .ref x1, .int (wI x2), .int (wI x3), .int (wI x4)] [] S σ119 τ Q
      refine i5 c_51_179 rfl (i5 c_51_180 rfl (i3 c_51_181 rfl (i1 c_51_182 (i10 c_51_183 ?_))))
      exact i80 (As := [.ref x1, .int (wI (x2 + 1))]) (rest := []) c_51_184 mi_51 rfl rfl (Nat.le_of_ble_eq_true rfl) (Nat.le_of_ble_eq_true rfl) (lo (c := 63) (kd := 103) (n := 0) rfl (by decide)) t
  · have t := iF t hc
    have ha2 : ¬ (x2 < 8) := hc
    obtain ⟨T21, t⟩ := t
    obtain ⟨n22, t⟩ := t
    obtain ⟨s23, t⟩ := t
    obtain ⟨p24, t⟩ := t
    obtain ⟨p25, t⟩ := t
    refine i5 c_51_156 rfl (i1 c_51_157 ?_)
    refine i80 (As := [.int (wI 3)]) (rest := []) c_51_158 mi_43 rfl rfl (Nat.le_of_ble_eq_true rfl) (Nat.le_of_ble_eq_true rfl) (lo (c := 63) (kd := 103) (n := 0) rfl (by decide)) (q_43 (T := T21) (n := n22) (s := s23) p24 (by decide) p25 (fun σ126 q27 q28 q29 => ?_))
    have t := t σ126 q27 q28 q29
    show wi (d + 8) 51 161 [.ref 63, .ref x1, .int (wI x2), .int (wI x3), .int (wI x4)] [] S σ126 τ Q
    refine i38 c_51_161 rfl t
set_option maxRecDepth 20000 in
theorem u_51_187 {d : Nat} {S : zS} {σ τ : zI} {Q : zQ} {x1 : Nat} {x2 : Int} {x3 : Int} {x4 : Int} (hx1 : oT S x1) (t : (0 ≤ σ x1 2 ∧ σ x1 2 ≤ 300) ∧ (rg (37 * 10000 + 0)) ∧ ∀ (σ13 : zI), CJ x1 σ σ13 → σ13 63 = σ 63 → (σ x1 2 < 300 → σ13 x1 2 = σ x1 2 + 1 ∧ σ13 (x1 + 3) = u1 (σ (x1 + 3)) (σ x1 2) (37 * 10000 + 0)) → wi (d + 8) 51 242 [.ref 63, .ref x1, .int (wI x2), .int (wI x3), .int (wI x4)] [] S σ13 τ Q) : wi (d + 8) 51 187 [.ref 63, .ref x1, .int (wI x2), .int (wI x3), .int (wI x4)] [] S σ τ Q := by
  obtain ⟨p1, t⟩ := t
  obtain ⟨p2, t⟩ := t
  refine i5 c_51_187 rfl (i1 c_51_188 (i1 c_51_190 ?_))
  refine i80 (As := [.int (wI 37), .int (wI 0)]) (rest := []) c_51_191 mi_84 rfl rfl (Nat.le_of_ble_eq_true rfl) (Nat.le_of_ble_eq_true rfl) (fun _ => oT_0 hx1) (q_84 hx1 p1 p2 (fun σ13 q4 q5 q6 => ?_))
  have t := t σ13 q4 q5 q6
  show wi (d + 8) 51 194 [.ref 63, .ref x1, .int (wI x2), .int (wI x3), .int (wI x4)] [] S σ13 τ Q
  refine i38 c_51_194 rfl t
set_option maxRecDepth 20000 in
theorem u_51_211 {d : Nat} {S : zS} {σ τ : zI} {Q : zQ} {x1 : Nat} {x2 : Int} {x3 : Int} {x4 : Int} (hx1 : oT S x1) (t : (rg x4) ∧ if x4 = 0 then (∃ T3 : Int → Int, ∃ n4 : Int, ∃ s5 : Int, (CR T3 n4 s5 σ ∨ CFS σ) ∧ (CR T3 n4 s5 σ → (1 : Int) ≠ 34) ∧ (TB T3 n4) ∧ ∀ (σ19 : zI), XP T3 n4 s5 34 σ σ19 → wi (d + 8) 51 242 [.ref 63, .ref x1, .int (wI x2), .int (wI x3), .int (wI x4)] [] S σ19 τ Q) else (∃ T11 : Int → Int, ∃ n12 : Int, ∃ s13 : Int, (CR T11 n12 s13 σ ∨ CFS σ) ∧ (CR T11 n12 s13 σ → (1 : Int) ≠ 35) ∧ (TB T11 n12) ∧ ∀ (σ117 : zI), XP T11 n12 s13 35 σ σ117 → wc (d + 7) 50 [.ref 63, .ref x1, .int (wI (x2 + 1))] S σ117 τ (fun r S1 σ1 τ1 => wi (d + 8) 51 230 [.ref 63, .ref x1, .int (wI x2), .int (wI x3), .int (wI x4)] (r.toList ++ []) S1 σ1 τ1 Q))) : wi (d + 8) 51 211 [.ref 63, .ref x1, .int (wI x2), .int (wI x3), .int (wI x4)] [] S σ τ Q := by
  obtain ⟨r1, t⟩ := t
  refine i3 c_51_211 rfl ?_
  refine i36 c_51_213 r1 rfl (fun hc => ?_) (fun hc => ?_)
  · have t := iT t hc
    have ha2 : x4 = 0 := hc
    obtain ⟨T3, t⟩ := t
    obtain ⟨n4, t⟩ := t
    obtain ⟨s5, t⟩ := t
    obtain ⟨p6, t⟩ := t
    obtain ⟨p7, t⟩ := t
    obtain ⟨p8, t⟩ := t
    refine i5 c_51_236 rfl (i1 c_51_237 ?_)
    refine i80 (As := [.int (wI 34)]) (rest := []) c_51_239 mi_44 rfl rfl (Nat.le_of_ble_eq_true rfl) (Nat.le_of_ble_eq_true rfl) (lo (c := 63) (kd := 103) (n := 0) rfl (by decide)) (q_44 (T := T3) (n := n4) (s := s5) p6 p7 (by decide) p8 (fun σ19 q10 => ?_))
    have t := t σ19 q10
    show wi (d + 8) 51 242 [.ref 63, .ref x1, .int (wI x2), .int (wI x3), .int (wI x4)] [] S σ19 τ Q
    exact t
  · have t := iF t hc
    have ha2 : ¬ (x4 = 0) := hc
    obtain ⟨T11, t⟩ := t
    obtain ⟨n12, t⟩ := t
    obtain ⟨s13, t⟩ := t
    obtain ⟨p14, t⟩ := t
    obtain ⟨p15, t⟩ := t
    obtain ⟨p16, t⟩ := t
    refine i5 c_51_216 rfl (i1 c_51_217 ?_)
    refine i80 (As := [.int (wI 35)]) (rest := []) c_51_219 mi_44 rfl rfl (Nat.le_of_ble_eq_true rfl) (Nat.le_of_ble_eq_true rfl) (lo (c := 63) (kd := 103) (n := 0) rfl (by decide)) (q_44 (T := T11) (n := n12) (s := s13) p14 p15 (by decide) p16 (fun σ117 q18 => ?_))
    have t := t σ117 q18
    show wi (d + 8) 51 222 [.ref 63, .ref x1, .int (wI x2), .int (wI x3), .int (wI x4)] [] S σ117 τ Q
    refine i5 c_51_222 rfl (i5 c_51_223 rfl (i3 c_51_224 rfl (i1 c_51_225 (i10 c_51_226 ?_))))
    exact i80 (As := [.ref x1, .int (wI (x2 + 1))]) (rest := []) c_51_227 mi_50 rfl rfl (Nat.le_of_ble_eq_true rfl) (Nat.le_of_ble_eq_true rfl) (lo (c := 63) (kd := 103) (n := 0) rfl (by decide)) t
set_option maxRecDepth 20000 in
theorem u_51_230 {d : Nat} {S : zS} {σ τ : zI} {Q : zQ} {x1 : Nat} {x2 : Int} {x3 : Int} {x4 : Int} (hx1 : oT S x1) (t : (0 ≤ σ x1 2 ∧ σ x1 2 ≤ 300) ∧ (rg (x3 * 10000 + 0)) ∧ ∀ (σ13 : zI), CJ x1 σ σ13 → σ13 63 = σ 63 → (σ x1 2 < 300 → σ13 x1 2 = σ x1 2 + 1 ∧ σ13 (x1 + 3) = u1 (σ (x1 + 3)) (σ x1 2) (x3 * 10000 + 0)) → ∃ T7 : Int → Int, ∃ n8 : Int, ∃ s9 : Int, (CR T7 n8 s9 σ13 ∨ CFS σ13) ∧ (CR T7 n8 s9 σ13 → (1 : Int) ≠ 34) ∧ (TB T7 n8) ∧ ∀ (σ113 : zI), XP T7 n8 s9 34 σ13 σ113 → wi (d + 8) 51 242 [.ref 63, .ref x1, .int (wI x2), .int (wI x3), .int (wI x4)] [] S σ113 τ Q) : wi (d + 8) 51 230 [.ref 63, .ref x1, .int (wI x2), .int (wI x3), .int (wI x4)] [] S σ τ Q := by
  obtain ⟨p1, t⟩ := t
  obtain ⟨p2, t⟩ := t
  refine i5 c_51_230 rfl (i3 c_51_231 rfl (i1 c_51_232 ?_))
  refine i80 (As := [.int (wI x3), .int (wI 0)]) (rest := []) c_51_233 mi_84 rfl rfl (Nat.le_of_ble_eq_true rfl) (Nat.le_of_ble_eq_true rfl) (fun _ => oT_0 hx1) (q_84 hx1 p1 p2 (fun σ13 q4 q5 q6 => ?_))
  have t := t σ13 q4 q5 q6
  show wi (d + 8) 51 236 [.ref 63, .ref x1, .int (wI x2), .int (wI x3), .int (wI x4)] [] S σ13 τ Q
  obtain ⟨T7, t⟩ := t
  obtain ⟨n8, t⟩ := t
  obtain ⟨s9, t⟩ := t
  obtain ⟨p10, t⟩ := t
  obtain ⟨p11, t⟩ := t
  obtain ⟨p12, t⟩ := t
  refine i5 c_51_236 rfl (i1 c_51_237 ?_)
  refine i80 (As := [.int (wI 34)]) (rest := []) c_51_239 mi_44 rfl rfl (Nat.le_of_ble_eq_true rfl) (Nat.le_of_ble_eq_true rfl) (lo (c := 63) (kd := 103) (n := 0) rfl (by decide)) (q_44 (T := T7) (n := n8) (s := s9) p10 p11 (by decide) p12 (fun σ113 q14 => ?_))
  have t := t σ113 q14
  show wi (d + 8) 51 242 [.ref 63, .ref x1, .int (wI x2), .int (wI x3), .int (wI x4)] [] S σ113 τ Q
  exact t
set_option maxRecDepth 20000 in
theorem u_51_242 {d : Nat} {S : zS} {σ τ : zI} {Q : zQ} {x1 : Nat} {x2 : Int} {x3 : Int} {x4 : Int} (hx1 : oT S x1) (t : Q none S σ τ) : wi (d + 8) 51 242 [.ref 63, .ref x1, .int (wI x2), .int (wI x3), .int (wI x4)] [] S σ τ Q := by
  exact i94 c_51_242 t
section CFT
variable {S : zS}
theorem tm_b (v : Int) : -10000 < Int.tmod v 10000 ∧ Int.tmod v 10000 < 10000 := ⟨Int.lt_tmod_of_pos v (by decide), Int.tmod_lt_of_pos v (by decide)⟩
theorem f_sum (d x : Nat) (o : Int) (σ τ : zI) (Q : zQ) (hx : oT S x) (fl : CFS σ) (t : Q none S σ τ) : wc (d + 8) 50 [.ref 63, .ref x, .int (wI o)] S σ τ Q :=
  wc_of mi_50 rfl (u_50_0 hx (u_50_5 hx ⟨by omega, ifI (fun z => by omega) (fun _ => ifI (fun z => absurd z fl.1) (fun _ => u_50_136 hx t))⟩))
def FO (S : zS) (k : Nat) : Prop := ∀ (d x : Nat) (σ τ : zI) (Q : zQ), oT S x → CFS σ → (0 ≤ σ x 2 ∧ σ x 2 ≤ 300) → (∀ σ1, CJ x σ σ1 → σ1 63 = σ 63 → Q none S σ1 τ) → wc (d + 2 * k + 8) 51 [.ref 63, .ref x, .int (wI (8 - k))] S σ τ Q
theorem f_step (k : Nat) (hk : k ≤ 8) (rec : ∀ k', k = k' + 1 → FO S k') : FO S k := by
    intro d x σ τ Q hx fl hb t
    have xb := oT_b hx
    refine wc_ok fun K => ?_
    have rn : rg (σ 63 4) := kO_r K 63 4
    have gen : ∀ σ', CJ x σ σ' → σ' 63 = σ 63 → CFS σ' ∧ (∀ T n s, ¬ CR T n s σ') ∧ Q none S σ' τ ∧ (0 ≤ σ' x 2 ∧ σ' x 2 ≤ 300) := fun σ' cj e => by
      have f : CFS σ' := by unfold CFS; rw [e]; exact fl
      exact ⟨f, fun T n s cr => absurd (CR_b cr).2.2.2.1 f.1, t σ' cj e, cj.2.2.2 hb⟩
    have g0 := gen σ CJ_0 rfl
    have f2 := fl.2
    have tb0 : TB (fun _ => 0) 0 := ⟨by omega, fun k _ _ => by omega⟩
    have exq : ∀ (tt : Int) (σ' : zI) (Q' : zI → Prop), CFS σ' → (∀ T n s, ¬ CR T n s σ') → Q' σ' → ∃ T1 : Int → Int, ∃ n2 : Int, ∃ s3 : Int, (CR T1 n2 s3 σ' ∨ CFS σ') ∧ (CR T1 n2 s3 σ' → (1 : Int) ≠ tt) ∧ (TB T1 n2) ∧ ∀ (σ17 : zI), XP T1 n2 s3 tt σ' σ17 → Q' σ17 := fun tt σ' Q' f nc q => ⟨fun _ => 0, 0, 0, Or.inr f, fun z => absurd z (nc _ _ _), tb0, fun σ2 xp => by rw [xp.2.1 f]; exact q⟩
    have exr : ∀ (tt : Int) (σ' : zI) (Q' : zI → Prop), rg tt → CFS σ' → (∀ T n s, ¬ CR T n s σ') → Q' σ' → ∃ T1 : Int → Int, ∃ n2 : Int, ∃ s3 : Int, (CR T1 n2 s3 σ' ∨ CFS σ') ∧ (CR T1 n2 s3 σ' → (1 : Int) ≠ tt) ∧ (rg tt) ∧ (TB T1 n2) ∧ ∀ (σ17 : zI), XP T1 n2 s3 tt σ' σ17 → Q' σ17 := fun tt σ' Q' r f nc q => ⟨fun _ => 0, 0, 0, Or.inr f, fun z => absurd z (nc _ _ _), r, tb0, fun σ2 xp => by rw [xp.2.1 f]; exact q⟩
    have flq : ∀ (r : Int) (σ' : zI) (Q' : zI → Prop), CFS σ' → Q' σ' → ∃ T1 : Int → Int, ∃ n2 : Int, ∃ s3 : Int, (CR T1 n2 s3 σ' ∨ CFS σ') ∧ (TB T1 n2) ∧ ∀ (σ16 : zI), CK σ' σ16 → (CFS σ' → σ16 = σ') → (CR T1 n2 s3 σ' → CD r s3 σ16) → Q' σ16 := fun r σ' Q' f q => ⟨fun _ => 0, 0, 0, Or.inr f, tb0, fun σ2 _ h _ => by rw [h f]; exact q⟩
    have e242 : ∀ (x3 x4 : Int) (σ' : zI), CJ x σ σ' → σ' 63 = σ 63 → wi (d + 2 * k + 8) 51 242 [.ref 63, .ref x, .int (wI (8 - k)), .int (wI x3), .int (wI x4)] [] S σ' τ Q := fun x3 x4 σ' cj e => u_51_242 hx (gen σ' cj e).2.2.1
    have e142 : ∀ (x3 x4 : Int), wi (d + 2 * k + 8) 51 142 [.ref 63, .ref x, .int (wI (8 - k)), .int (wI x3), .int (wI x4)] [] S σ τ Q := fun x3 x4 => u_51_142 hx (flq 1 σ (fun σ16 => wi (d + 2 * k + 8) 51 242 [.ref 63, .ref x, .int (wI (8 - k)), .int (wI x3), .int (wI x4)] [] S σ16 τ Q) fl (e242 x3 x4 σ CJ_0 rfl))
    have e230 : ∀ (x3 x4 : Int), 0 ≤ x3 ∧ x3 ≤ 100 → wi (d + 2 * k + 8) 51 230 [.ref 63, .ref x, .int (wI (8 - k)), .int (wI x3), .int (wI x4)] [] S σ τ Q := fun x3 x4 h3 => u_51_230 hx ⟨hb, by omega, fun σ1 cj e _ => exq 34 σ1 (fun σ17 => wi (d + 2 * k + 8) 51 242 [.ref 63, .ref x, .int (wI (8 - k)), .int (wI x3), .int (wI x4)] [] S σ17 τ Q) (gen σ1 cj e).1 (gen σ1 cj e).2.1 (e242 x3 x4 σ1 cj e)⟩
    have e150 : ∀ (x3 x4 : Int), 0 ≤ x3 ∧ x3 ≤ 100 → rg x4 → wi (d + 2 * k + 8) 51 150 [.ref 63, .ref x, .int (wI (8 - k)), .int (wI x3), .int (wI x4)] [] S σ τ Q := by
      intro x3 x4 h3 r4
      cases k with
      | zero => exact u_51_150 hx ⟨by omega, ifI (fun z => by omega) (fun _ => flq 3 σ (fun σ16 => wi (d + 2 * 0 + 8) 51 242 [.ref 63, .ref x, .int (wI (8 - ((0 : Nat) : Int))), .int (wI x3), .int (wI x4)] [] S σ16 τ Q) fl (e242 x3 x4 σ CJ_0 rfl))⟩
      | succ k =>
        have hd : d + 2 * (k + 1) + 7 = (d + 2 * k + 1) + 8 := by omega
        have hd2 : d + 2 * (k + 1) + 7 = (d + 1) + 2 * k + 8 := by omega
        have hi : (8 - ((k + 1 : Nat) : Int)) + 1 = 8 - (k : Int) := by omega
        have e211 : wi (d + 2 * (k + 1) + 8) 51 211 [.ref 63, .ref x, .int (wI (8 - ((k + 1 : Nat) : Int))), .int (wI x3), .int (wI x4)] [] S σ τ Q := by
          refine u_51_211 hx ⟨r4, ifI (fun _ => exq 34 σ (fun σ17 => wi (d + 2 * (k + 1) + 8) 51 242 [.ref 63, .ref x, .int (wI (8 - ((k + 1 : Nat) : Int))), .int (wI x3), .int (wI x4)] [] S σ17 τ Q) fl g0.2.1 (e242 x3 x4 σ CJ_0 rfl)) (fun _ => exq 35 σ (fun σ17 => wc (d + 2 * (k + 1) + 7) 50 [.ref 63, .ref x, .int (wI (8 - ((k + 1 : Nat) : Int) + 1))] S σ17 τ (fun r S1 σ1 τ1 => wi (d + 2 * (k + 1) + 8) 51 230 [.ref 63, .ref x, .int (wI (8 - ((k + 1 : Nat) : Int))), .int (wI x3), .int (wI x4)] (r.toList ++ []) S1 σ1 τ1 Q)) fl g0.2.1 ?_)⟩
          rw [hd]
          exact f_sum _ x _ σ τ _ hx fl (e230 x3 x4 h3)
        refine u_51_150 hx ⟨by omega, ifI (fun _ => ifI (fun _ => exq 30 σ (fun σ17 => wc (d + 2 * (k + 1) + 7) 51 [.ref 63, .ref x, .int (wI (8 - ((k + 1 : Nat) : Int) + 1))] S σ17 τ (fun r S1 σ1 τ1 => wi (d + 2 * (k + 1) + 8) 51 187 [.ref 63, .ref x, .int (wI (8 - ((k + 1 : Nat) : Int))), .int (wI x3), .int (wI x4)] (r.toList ++ []) S1 σ1 τ1 Q)) fl g0.2.1 ?_) (fun _ => exq 33 σ (fun σ17 => wc (d + 2 * (k + 1) + 7) 50 [.ref 63, .ref x, .int (wI (8 - ((k + 1 : Nat) : Int) + 1))] S σ17 τ (fun r S1 σ1 τ1 => wi (d + 2 * (k + 1) + 8) 51 211 [.ref 63, .ref x, .int (wI (8 - ((k + 1 : Nat) : Int))), .int (wI x3), .int (wI x4)] (r.toList ++ []) S1 σ1 τ1 Q)) fl g0.2.1 ?_)) (fun z => by omega)⟩
        · rw [hd2, hi]
          refine rec k rfl (d + 1) x σ τ _ hx fl hb (fun σ1 cj e => ?_)
          have g1 := gen σ1 cj e
          exact u_51_187 hx ⟨g1.2.2.2, by omega, fun σ2 cj2 e2 _ => e242 x3 x4 σ2 (CJ_t cj cj2) (e2.trans e)⟩
        · rw [hd]
          exact f_sum _ x _ σ τ _ hx fl e211
    have e109 : ∀ (x3 x4 : Int), 0 ≤ x3 ∧ x3 ≤ 100 → rg x4 → wi (d + 2 * k + 8) 51 109 [.ref 63, .ref x, .int (wI (8 - k)), .int (wI x3), .int (wI x4)] [] S σ τ Q := fun x3 x4 h3 r4 => u_51_109 hx ⟨r4, ifI (fun _ => ifI (fun _ => e150 x3 x4 h3 r4) (fun _ => ifI (fun _ => e150 x3 x4 h3 r4) (fun _ => e142 x3 x4))) (fun _ => exr x3 σ (fun σ114 => if (σ114 63 4) = 33 then (wi (d + 2 * k + 8) 51 150 [.ref 63, .ref x, .int (wI (8 - k)), .int (wI x3), .int (wI x4)] [] S σ114 τ Q) else (wi (d + 2 * k + 8) 51 142 [.ref 63, .ref x, .int (wI (8 - k)), .int (wI x3), .int (wI x4)] [] S σ114 τ Q)) (by omega) fl g0.2.1 (ifI (fun _ => e150 x3 x4 h3 r4) (fun _ => e142 x3 x4)))⟩
    have e85 : ∀ (x3 x4 : Int), 0 ≤ x3 ∧ x3 ≤ 100 → rg x4 → wi (d + 2 * k + 8) 51 85 [.ref 63, .ref x, .int (wI (8 - k)), .int (wI x3), .int (wI x4)] [] S σ τ Q := fun x3 x4 h3 r4 => u_51_85 hx ⟨by omega, ifI (fun _ => e109 x3 x4 h3 r4) (fun _ => ifI (fun _ => e109 x3 x4 h3 r4) (fun _ => ⟨hb, by omega, fun σ1 cj e _ => exq x3 σ1 (fun σ17 => Q none S σ17 τ) (gen σ1 cj e).1 (gen σ1 cj e).2.1 (gen σ1 cj e).2.2.1⟩))⟩
    have e22 : ∀ (x3 x4 : Int) (y4 : Value), 0 ≤ x3 ∧ x3 ≤ 100 → rg x4 → wi (d + 2 * k + 8) 51 22 [.ref 63, .ref x, .int (wI (8 - k)), .int (wI x3), y4] [.int (wI x4)] S σ τ Q := by
      intro x3 x4 y4 h3 r4
      have tm := tm_b (σ 66 (σ 63 3))
      refine u_51_22 hx ⟨by omega, ifI (fun _ => ifI (fun _ => e85 x3 x4 h3 r4) (fun z => ⟨by omega, ifI (fun _ => ⟨hb, by omega, fun σ1 cj e _ => exq 2 σ1 (fun σ17 => Q none S σ17 τ) (gen σ1 cj e).1 (gen σ1 cj e).2.1 (gen σ1 cj e).2.2.1⟩) (fun _ => ?_)⟩)) (fun _ => e85 x3 x4 h3 r4)⟩
      refine ⟨fun _ => 0, 0, 0, Or.inr fl, tb0, fun σ2 _ h _ => ?_⟩
      rw [h fl]
      exact ⟨by omega, ⟨hb, by omega, fun σ1 cj e _ => exq 2 σ1 (fun σ17 => Q none S σ17 τ) (gen σ1 cj e).1 (gen σ1 cj e).2.1 (gen σ1 cj e).2.2.1⟩⟩
    have h4 : 0 ≤ σ 63 4 ∧ σ 63 4 ≤ 100 := by omega
    exact wc_of mi_51 rfl (u_51_0 hx (ifI (fun _ => u_51_17 hx (e22 _ 1 _ h4 (by omega))) (fun _ => ifI (fun _ => u_51_17 hx (e22 _ 1 _ h4 (by omega))) (fun _ => e22 _ 0 _ h4 (by omega)))))
theorem f_one : ∀ (k : Nat), k ≤ 8 → FO S k
  | 0, h => f_step 0 h (fun k' e => by omega)
  | k + 1, h => f_step (k + 1) h (fun k' e => by
    have : k' = k := by omega
    rw [this]
    exact f_one k (by omega))
end CFT
